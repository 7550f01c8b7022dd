/-! THE CLASS: the knots of a chant (by p56.py) -/
theorem RCa.ext {w : Nat} {C C' : Nat → Nat → Int} {A A' : Nat → Int → Int} {I I' : Nat → Int} {F F' : Nat → Int → Int} (hR : RCa w C A I F) (hC : ∀ q, q < 230 → C' q = C q) (hA : ∀ q, q < 230 → A' q = A q) (hI1 : I' 1 = I 1) (hI2 : I' 21 = I 21) (hF : ∀ k, 16 ≤ k → k ≤ 26 → F' k = F k) : RCa w C' A' I' F' :=
  ⟨(by rw [hI1]; exact hR.w1), (hR.w2), (by rw [hC 1 (by omega), hI2]; exact hR.t1), (by rw [hI2]; exact hR.t2), (by rw [hA 2 (by omega), hF 16 (by omega) (by omega)]; exact hR.a2), (by rw [hF 16 (by omega) (by omega)]; exact hR.b16), (by rw [hA 3 (by omega), hF 17 (by omega) (by omega)]; exact hR.a3), (by rw [hF 17 (by omega) (by omega)]; exact hR.b17), (fun c h1 h2 => by rw [hC _ (by omega), hF 18 (by omega) (by omega)]; exact hR.c18 c h1 h2), (by rw [hF 18 (by omega) (by omega)]; exact hR.b18), (fun c l h1 h2 h3 h4 => by rw [hA _ (by omega), hF 19 (by omega) (by omega)]; exact hR.a19 c l h1 h2 h3 h4), (by rw [hF 19 (by omega) (by omega)]; exact hR.b19), (fun c l h1 h2 h3 h4 => by rw [hA _ (by omega), hF 20 (by omega) (by omega)]; exact hR.a20 c l h1 h2 h3 h4), (by rw [hF 20 (by omega) (by omega)]; exact hR.b20), (by rw [hF 20 (by omega) (by omega), hF 18 (by omega) (by omega)]; exact hR.z20), (fun r i h1 h2 h3 h4 => by rw [hA _ (by omega), hF 22 (by omega) (by omega)]; exact hR.a22 r i h1 h2 h3 h4), (fun r i h1 h2 h3 h4 => by rw [hA _ (by omega), hF 23 (by omega) (by omega)]; exact hR.a23 r i h1 h2 h3 h4), (fun r i h1 h2 h3 h4 => by rw [hA _ (by omega), hF 24 (by omega) (by omega)]; exact hR.a24 r i h1 h2 h3 h4), (fun r i h1 h2 h3 h4 => by rw [hA _ (by omega), hF 25 (by omega) (by omega)]; exact hR.a25 r i h1 h2 h3 h4), (by rw [hF 22 (by omega) (by omega)]; exact hR.b22), (by rw [hF 23 (by omega) (by omega)]; exact hR.b23), (by rw [hF 24 (by omega) (by omega)]; exact hR.b24), (by rw [hF 25 (by omega) (by omega)]; exact hR.b25), (fun r h1 h2 => by rw [hC _ (by omega), hF 26 (by omega) (by omega)]; exact hR.c26 r h1 h2), (by rw [hF 26 (by omega) (by omega)]; exact hR.b26)⟩
def cW (C : Nat → Nat → Int) (a : Int) : Nat → Nat → Int := va_up C 230 (va_up (C 230) 5 a)
def aW (A : Nat → Int → Int) (f : Int → Int) : Nat → Int → Int := va_up A 232 f
theorem cW_put (C : Nat → Nat → Int) (a v : Int) : va_up (cW C a) 230 (va_up (cW C a 230) 5 v) = cW C v := by
  unfold cW
  rw [va_up_self, va_up_twice, va_up_twice]
theorem aW_put (A : Nat → Int → Int) (f : Int → Int) (i v : Int) : va_up (aW A f) 232 (fu (aW A f 232) i v) = aW A (fu f i v) := by
  unfold aW
  rw [va_up_self, va_up_twice]
theorem aW_self (A : Nat → Int → Int) : aW A (A 232) = A := va_up_same A 232
theorem RDy.cW {h : Nat → va_E} {nx : Nat} {C : Nat → Nat → Int} {V : Nat → Value} {I : Nat → Int} {F : Nat → Int → Int} {ca : Nat → Nat} {sa : Nat → Nat → Nat} {own : Nat → Nat} (hD : RDy h nx C V I F ca sa own) (a : Int) : RDy h nx (cW C a) V I F ca sa own := hD
theorem RCa.cW {w : Nat} {C : Nat → Nat → Int} {A : Nat → Int → Int} {I : Nat → Int} {F : Nat → Int → Int} (hR : RCa w C A I F) (a : Int) (f : Int → Int) : RCa w (cW C a) (aW A f) I F := hR.ext (fun q hq => va_up_ne _ _ (by omega)) (fun q hq => va_up_ne _ _ (by omega)) rfl rfl (fun _ _ _ => rfl)
theorem RCa.cM {w : Nat} {C : Nat → Nat → Int} {A : Nat → Int → Int} {I : Nat → Int} {F : Nat → Int → Int} (hR : RCa w C A I F) (a : Int) (f : Int → Int) : RCa w (cM C a) (aM A f) I F := hR.ext (fun q hq => va_up_ne _ _ (by omega)) (fun q hq => va_up_ne _ _ (by omega)) rfl rfl (fun _ _ _ => rfl)
set_option maxRecDepth 20000 in
theorem k_X0_writeKnot {l0 : Launch} {g : Gw} {w nx : Nat} {h : Nat → va_E} {C : Nat → Nat → Int} {A : Nat → Int → Int} {V : Nat → Value} {a : Int} {f : Int → Int} {c : Int} (ha : 0 ≤ a ∧ a < 1000) (hc : 0 ≤ c ∧ c ≤ 7) : MD l0 g 0 mX0_writeKnot (cp w (cW C a) (aW A f) V h, nx) [.ref 230, .int (iI (c))] 0 0 (none) (cp w (cW C (a + 1)) (aW A (fu f a c)) V h, nx) := by
  refine MD.of (by decide +kernel) (by simp [Value.category]) (tle rfl) (fun X b => ?_)
  change WW X g _ _ 0 0 0 [some (.ref 230), some (.int (iI (c)))] [] _
  refine w_aload_n b dX0_writeKnot_0 rfl rfl ?_
  refine q_get (v := .int (iI a)) b dX0_writeKnot_1 lfX0_92 (tlt rfl) ct_230 rfl ?_
  refine w_aload_n b dX0_writeKnot_4 rfl rfl ?_
  refine q_get b dX0_writeKnot_5 lfX0_18 (tlt rfl) ct_230 rfl ?_
  refine q_alen b dX0_writeKnot_8 (tlt rfl) ct_232 (tlt rfl) ?_
  refine z_icmp_ge (tgt := 33) b dX0_writeKnot_9 (by decide) (by omega) (fun c9 => ?_) (fun c9 => ?_)
  · exfalso; omega
  · refine w_aload_n b dX0_writeKnot_12 rfl rfl ?_
    refine q_get b dX0_writeKnot_13 lfX0_18 (tlt rfl) ct_230 rfl ?_
    refine w_aload_n b dX0_writeKnot_16 rfl rfl ?_
    refine q_get (v := .int (iI a)) b dX0_writeKnot_17 lfX0_92 (tlt rfl) ct_230 rfl ?_
    refine w_iload_n b dX0_writeKnot_20 rfl ?_
    refine z_i2b b dX0_writeKnot_21 (by omega) ?_
    refine q_bast b dX0_writeKnot_22 (tlt rfl) (fun _ => ct_232) (by omega) (by omega) ?_
    rw [aW_put]
    refine w_aload_n b dX0_writeKnot_23 rfl rfl ?_
    refine w_dup b dX0_writeKnot_24 rfl ?_
    refine q_get (v := .int (iI a)) b dX0_writeKnot_25 lfX0_92 (tlt rfl) ct_230 rfl ?_
    refine z_iconst b dX0_writeKnot_28 ?_
    refine z_iadd b dX0_writeKnot_29 ?_
    refine q_put b dX0_writeKnot_30 lfX0_92 gcX0 gtX0_5 (tlt rfl) (fun _ => ct_230) (tlt rfl) rfl ?_
    rw [cW_put]
    exact w_vret b dX0_writeKnot_33 rfl (by omega) (by omega) ⟨rfl, rfl⟩
theorem k_heardW {l0 : Launch} {g : Gw} {w nx : Nat} {h : Nat → va_E} {C : Nat → Nat → Int} {A : Nat → Int → Int} {V : Nat → Value} {a : Int} {f : Int → Int} {p : Int} (hp : 0 ≤ p ∧ p < a) (ha : a ≤ 1000) : MD l0 g 0 mX0_heard (cp w (cW C a) (aW A f) V h, nx) [.ref 230, .int (iI p)] 0 0 (some (.int (iI (f p)))) (cp w (cW C a) (aW A f) V h, nx) := by
  have h1 := k_X0_heard (l0 := l0) (g := g) (w := w) (nx := nx) (h := h) (C := cW C a) (A := aW A f) (V := V) (p := p) ⟨by omega, by omega⟩ ⟨show 0 ≤ a by omega, ha⟩
  rw [if_pos (show 0 ≤ p ∧ p < cW C a 230 5 from hp)] at h1
  exact h1
set_option maxRecDepth 20000 in
theorem l_X0_writeColour {X : Cx} {l0 : Launch} {g : Gw} {Z : State → Prop} {w nx : Nat} {h : Nat → va_E} {C : Nat → Nat → Int} {A : Nat → Int → Int} {V : Nat → Value} (b : BX X l0 g mX0_writeColour 1 0 0) {a : Int} {f : Int → Int} {c m : Int} (ha : 0 ≤ a ∧ a + m ≤ 1000) (hc : 0 ≤ c ∧ c ≤ 7) : ∀ (n : Nat) (i : Int), (i + n = m) → (0 ≤ i) → WW X g mX0_writeColour.2.2.1 Z 0 0 18 [some (.ref 230), some (.int (iI (c))), some (.int (iI (m))), none] [] (cp w (cW C (a + m)) (aW A (exF (fun _ => c) a (m) f)) V h, nx) → WW X g mX0_writeColour.2.2.1 Z 0 0 2 [some (.ref 230), some (.int (iI (c))), some (.int (iI (m))), some (.int (iI (i)))] [] (cp w (cW C (a + i)) (aW A (exF (fun _ => c) a i f)) V h, nx) := by
  intro n
  induction n with
  | zero =>
    intro i h1 h2 kk
    refine w_iload_n b dX0_writeColour_2 rfl ?_
    refine w_iload_n b dX0_writeColour_3 rfl ?_
    refine z_icmp_ge (tgt := 18) b dX0_writeColour_4 (by decide) (by omega) (fun c4 => ?_) (fun c4 => ?_)
    · obtain ei : i = m := by omega
      rw [ei]
      refine ww_forget 3 ?_
      exact kk
    · exfalso; omega
  | succ n ih =>
    intro i h1 h2 kk
    refine w_iload_n b dX0_writeColour_2 rfl ?_
    refine w_iload_n b dX0_writeColour_3 rfl ?_
    refine z_icmp_ge (tgt := 18) b dX0_writeColour_4 (by decide) (by omega) (fun c4 => ?_) (fun c4 => ?_)
    · exfalso; omega
    · refine w_aload_n b dX0_writeColour_7 rfl rfl ?_
      refine w_iload_n b dX0_writeColour_8 rfl ?_
      refine c_V1v b dX0_writeColour_9 lmX0_118 (cpS (tlt rfl) ct_230) (k_X0_writeKnot (by omega) (by omega)) (tle rfl) (by omega) (by omega) (by omega) ?_
      refine z_iinc b dX0_writeColour_12 rfl rfl rfl ?_
      refine w_goto (tgt := 2) b dX0_writeColour_15 (by decide) ?_
      rw [show a + i + 1 = a + (i + 1) by omega, exF_s h2 rfl]
      exact ih (i + 1) (by omega) (by omega) kk
set_option maxRecDepth 20000 in
theorem k_X0_writeColour {l0 : Launch} {g : Gw} {w nx : Nat} {h : Nat → va_E} {C : Nat → Nat → Int} {A : Nat → Int → Int} {V : Nat → Value} {a : Int} {f : Int → Int} {c m : Int} (ha : 0 ≤ a ∧ a + (if 0 ≤ m then m else 0) ≤ 1000) (hm9 : -20000 ≤ m) (hc : 0 ≤ c ∧ c ≤ 7) : MD l0 g 1 mX0_writeColour (cp w (cW C a) (aW A f) V h, nx) [.ref 230, .int (iI (c)), .int (iI (m))] 0 0 (none) (cp w (cW C (a + if 0 ≤ m then m else 0)) (aW A (exF (fun _ => c) a (if 0 ≤ m then m else 0) f)) V h, nx) := by
  have hm8 : m ≤ 1000 := by split at ha <;> omega
  refine MD.of (by decide +kernel) (by simp [Value.category]) (tle rfl) (fun X b => ?_)
  change WW X g _ _ 0 0 0 [some (.ref 230), some (.int (iI (c))), some (.int (iI (m))), none] [] _
  refine z_iconst b dX0_writeColour_0 ?_
  refine w_istore_n b dX0_writeColour_1 (tlt rfl) rfl ?_
  by_cases hm : 0 ≤ m
  · refine ww_cast rfl rfl (by rw [show exF (fun _ => c) a 0 f = f from exF_0 _ _ _, Int.add_zero]) (l_X0_writeColour (a := a) (f := f) (c := c) (m := m) b (by rw [if_pos hm] at ha; exact ha) hc m.toNat 0 (by omega) (by omega) ?_)
    exact w_vret b dX0_writeColour_18 rfl (by omega) (by omega) ⟨rfl, by rw [if_pos hm]⟩
  · refine w_iload_n b dX0_writeColour_2 rfl ?_
    refine w_iload_n b dX0_writeColour_3 rfl ?_
    refine z_icmp_ge (tgt := 18) b dX0_writeColour_4 (by decide) (by omega) (fun c4 => ?_) (fun c4 => ?_)
    · exact w_vret b dX0_writeColour_18 rfl (by omega) (by omega) ⟨rfl, by rw [if_neg hm, Int.add_zero, exF_0]⟩
    · exfalso; omega
set_option maxRecDepth 20000 in
theorem l_X0_writeBackward {X : Cx} {l0 : Launch} {g : Gw} {Z : State → Prop} {w nx : Nat} {h : Nat → va_E} {C : Nat → Nat → Int} {A : Nat → Int → Int} {V : Nat → Value} (b : BX X l0 g mX0_writeBackward 1 0 0) {a : Int} {f : Int → Int} {bs m : Int} (ha : 0 ≤ a ∧ a + m ≤ 1000) (hb : 0 ≤ bs ∧ bs + m = a) (hf : col7 f) : ∀ (n : Nat) (i : Int), (i + n = m) → (0 ≤ i) → WW X g mX0_writeBackward.2.2.1 Z 0 0 25 [some (.ref 230), some (.int (iI (bs))), some (.int (iI (m))), none] [] (cp w (cW C (a + m)) (aW A (exF (fun i => f (a - 1 - i)) a (m) f)) V h, nx) → WW X g mX0_writeBackward.2.2.1 Z 0 0 4 [some (.ref 230), some (.int (iI (bs))), some (.int (iI (m))), some (.int (iI (m - 1 - i)))] [] (cp w (cW C (a + i)) (aW A (exF (fun i => f (a - 1 - i)) a i f)) V h, nx) := by
  intro n
  induction n with
  | zero =>
    intro i h1 h2 kk
    refine w_iload_n b dX0_writeBackward_4 rfl ?_
    refine z_if_lt (tgt := 25) b dX0_writeBackward_5 (by decide) (by omega) (fun c5 => ?_) (fun c5 => ?_)
    · obtain ei : i = m := by omega
      rw [ei]
      refine ww_forget 3 ?_
      exact kk
    · exfalso; omega
  | succ n ih =>
    intro i h1 h2 kk
    refine w_iload_n b dX0_writeBackward_4 rfl ?_
    refine z_if_lt (tgt := 25) b dX0_writeBackward_5 (by decide) (by omega) (fun c5 => ?_) (fun c5 => ?_)
    · exfalso; omega
    · refine w_aload_n b dX0_writeBackward_8 rfl rfl ?_
      refine w_aload_n b dX0_writeBackward_9 rfl rfl ?_
      refine w_iload_n b dX0_writeBackward_10 rfl ?_
      refine w_iload_n b dX0_writeBackward_11 rfl ?_
      refine z_iadd b dX0_writeBackward_12 ?_
      refine c_V1 b dX0_writeBackward_13 lmX0_122 (cpS (tlt rfl) ct_230) (k_heardW (by omega) (by omega)) (tle rfl) (by omega) (by omega) (by omega) ?_
      refine y_top (y := f (a - 1 - i)) (by rw [exF_lo (by omega)]; congr 1; omega) ?_
      refine c_V1v b dX0_writeBackward_16 lmX0_118 (cpS (tlt rfl) ct_230) (k_X0_writeKnot (by omega) (hf _ (by omega) (by omega))) (tle rfl) (by omega) (by omega) (by omega) ?_
      refine z_iinc b dX0_writeBackward_19 rfl rfl (show m - 1 - i + -1 = m - 1 - (i + 1) by omega) ?_
      refine w_goto (tgt := 4) b dX0_writeBackward_22 (by decide) ?_
      rw [show a + i + 1 = a + (i + 1) by omega, exF_s h2 rfl]
      exact ih (i + 1) (by omega) (by omega) kk
set_option maxRecDepth 20000 in
theorem k_X0_writeBackward {l0 : Launch} {g : Gw} {w nx : Nat} {h : Nat → va_E} {C : Nat → Nat → Int} {A : Nat → Int → Int} {V : Nat → Value} {a : Int} {f : Int → Int} {bs m : Int} (ha : 0 ≤ a ∧ a + m ≤ 1000) (hb : 0 ≤ bs ∧ bs + m = a) (hf : col7 f) (hm : 0 ≤ m) : MD l0 g 1 mX0_writeBackward (cp w (cW C a) (aW A f) V h, nx) [.ref 230, .int (iI (bs)), .int (iI (m))] 0 0 (none) (cp w (cW C (a + m)) (aW A (exF (fun i => f (a - 1 - i)) a m f)) V h, nx) := by
  refine MD.of (by decide +kernel) (by simp [Value.category]) (tle rfl) (fun X b => ?_)
  change WW X g _ _ 0 0 0 [some (.ref 230), some (.int (iI (bs))), some (.int (iI (m))), none] [] _
  refine w_iload_n b dX0_writeBackward_0 rfl ?_
  refine z_iconst b dX0_writeBackward_1 ?_
  refine z_isub b dX0_writeBackward_2 ?_
  refine w_istore_n b dX0_writeBackward_3 (tlt rfl) rfl ?_
  refine ww_cast (by rw [show m - 1 - 0 = m - 1 by omega]; rfl) rfl (by rw [show exF (fun i => f (a - 1 - i)) a 0 f = f from exF_0 _ _ _, Int.add_zero]) (l_X0_writeBackward (a := a) (f := f) (bs := bs) (m := m) b ha hb hf m.toNat 0 (by omega) (by omega) ?_)
  exact w_vret b dX0_writeBackward_25 rfl (by omega) (by omega) ⟨rfl, rfl⟩
theorem ag_val {f : Int → Int} {a bs i : Int} (hb : 0 ≤ bs ∧ bs < a) (hi : 0 ≤ i) : exF (fun i => f (bs + i % (a - bs))) a i f (bs + i) = f (bs + i % (a - bs)) := by
  by_cases h : bs + i < a
  · rw [exF_lo h, Int.emod_eq_of_lt hi (by omega)]
  · unfold exF
    rw [if_pos ⟨by omega, by omega⟩]
    show f (bs + (bs + i - a) % (a - bs)) = _
    rw [show bs + i - a = i - (a - bs) by omega, Int.sub_emod_right]
set_option maxRecDepth 20000 in
theorem l_X0_writeAgain {X : Cx} {l0 : Launch} {g : Gw} {Z : State → Prop} {w nx : Nat} {h : Nat → va_E} {C : Nat → Nat → Int} {A : Nat → Int → Int} {V : Nat → Value} (b : BX X l0 g mX0_writeAgain 1 0 0) {a : Int} {f : Int → Int} {bs m : Int} (ha : 0 ≤ a ∧ a + m ≤ 1000) (hb : 0 ≤ bs ∧ bs ≤ a) (hm : 0 < m → bs < a) (hf : col7 f) : ∀ (n : Nat) (i : Int), (i + n = m) → (0 ≤ i) → WW X g mX0_writeAgain.2.2.1 Z 0 0 24 [some (.ref 230), some (.int (iI (bs))), some (.int (iI (m))), none] [] (cp w (cW C (a + m)) (aW A (exF (fun i => f (bs + i % (a - bs))) a (m) f)) V h, nx) → WW X g mX0_writeAgain.2.2.1 Z 0 0 2 [some (.ref 230), some (.int (iI (bs))), some (.int (iI (m))), some (.int (iI (i)))] [] (cp w (cW C (a + i)) (aW A (exF (fun i => f (bs + i % (a - bs))) a i f)) V h, nx) := by
  intro n
  induction n with
  | zero =>
    intro i h1 h2 kk
    refine w_iload_n b dX0_writeAgain_2 rfl ?_
    refine w_iload_n b dX0_writeAgain_3 rfl ?_
    refine z_icmp_ge (tgt := 24) b dX0_writeAgain_4 (by decide) (by omega) (fun c4 => ?_) (fun c4 => ?_)
    · obtain ei : i = m := by omega
      rw [ei]
      refine ww_forget 3 ?_
      exact kk
    · exfalso; omega
  | succ n ih =>
    intro i h1 h2 kk
    refine w_iload_n b dX0_writeAgain_2 rfl ?_
    refine w_iload_n b dX0_writeAgain_3 rfl ?_
    refine z_icmp_ge (tgt := 24) b dX0_writeAgain_4 (by decide) (by omega) (fun c4 => ?_) (fun c4 => ?_)
    · exfalso; omega
    · refine w_aload_n b dX0_writeAgain_7 rfl rfl ?_
      refine w_aload_n b dX0_writeAgain_8 rfl rfl ?_
      refine w_iload_n b dX0_writeAgain_9 rfl ?_
      refine w_iload_n b dX0_writeAgain_10 rfl ?_
      refine z_iadd b dX0_writeAgain_11 ?_
      have hlt := hm (by omega)
      have hmo := Int.emod_nonneg i (show a - bs ≠ 0 by omega)
      have hmo2 := Int.emod_lt_of_pos i (show 0 < a - bs by omega)
      refine c_V1 b dX0_writeAgain_12 lmX0_122 (cpS (tlt rfl) ct_230) (k_heardW (by omega) (by omega)) (tle rfl) (by omega) (by omega) (by omega) ?_
      refine y_top (y := f (bs + i % (a - bs))) (ag_val (by omega) h2) ?_
      refine c_V1v b dX0_writeAgain_15 lmX0_118 (cpS (tlt rfl) ct_230) (k_X0_writeKnot (by omega) (hf _ (by omega) (by omega))) (tle rfl) (by omega) (by omega) (by omega) ?_
      refine z_iinc b dX0_writeAgain_18 rfl rfl rfl ?_
      refine w_goto (tgt := 2) b dX0_writeAgain_21 (by decide) ?_
      rw [show a + i + 1 = a + (i + 1) by omega, exF_s h2 rfl]
      exact ih (i + 1) (by omega) (by omega) kk
set_option maxRecDepth 20000 in
theorem k_X0_writeAgain {l0 : Launch} {g : Gw} {w nx : Nat} {h : Nat → va_E} {C : Nat → Nat → Int} {A : Nat → Int → Int} {V : Nat → Value} {a : Int} {f : Int → Int} {bs m : Int} (ha : 0 ≤ a ∧ a + m ≤ 1000) (hb : 0 ≤ bs ∧ bs ≤ a) (hm : 0 < m → bs < a) (hf : col7 f) (hm0 : 0 ≤ m) : MD l0 g 1 mX0_writeAgain (cp w (cW C a) (aW A f) V h, nx) [.ref 230, .int (iI (bs)), .int (iI (m))] 0 0 (none) (cp w (cW C (a + m)) (aW A (exF (fun i => f (bs + i % (a - bs))) a m f)) V h, nx) := by
  refine MD.of (by decide +kernel) (by simp [Value.category]) (tle rfl) (fun X b => ?_)
  change WW X g _ _ 0 0 0 [some (.ref 230), some (.int (iI (bs))), some (.int (iI (m))), none] [] _
  refine z_iconst b dX0_writeAgain_0 ?_
  refine w_istore_n b dX0_writeAgain_1 (tlt rfl) rfl ?_
  refine ww_cast rfl rfl (by rw [show exF (fun i => f (bs + i % (a - bs))) a 0 f = f from exF_0 _ _ _, Int.add_zero]) (l_X0_writeAgain (a := a) (f := f) (bs := bs) (m := m) b ha hb hm hf m.toNat 0 (by omega) (by omega) ?_)
  exact w_vret b dX0_writeAgain_24 rfl (by omega) (by omega) ⟨rfl, rfl⟩
set_option maxRecDepth 20000 in
theorem l_X0_writeLike {X : Cx} {l0 : Launch} {g : Gw} {Z : State → Prop} {w nx : Nat} {h : Nat → va_E} {C : Nat → Nat → Int} {A : Nat → Int → Int} {V : Nat → Value} (b : BX X l0 g mX0_writeLike 3 0 0) {a : Int} {f : Int → Int} {x ow rm : Int} {I : Nat → Int} {F : Nat → Int → Int} (hR : RCa w C A I F) (ha : 0 ≤ a ∧ a + (rm - ow) ≤ 1000) (hx : 1 ≤ x ∧ x ≤ 9) (ho : 0 ≤ ow) (hrm : rm ≤ 40) : ∀ (n : Nat) (i : Int), (i + n = (rm - ow)) → (0 ≤ i) → WW X g mX0_writeLike.2.2.1 Z 0 0 29 [some (.ref 230), some (.int (iI (x))), some (.int (iI (ow))), some (.int (iI (rm))), none] [] (cp w (cW C (a + (rm - ow))) (aW A (exF (fun i => blF I F x (ow + i)) a ((rm - ow)) f)) V h, nx) → WW X g mX0_writeLike.2.2.1 Z 0 0 3 [some (.ref 230), some (.int (iI (x))), some (.int (iI (ow))), some (.int (iI (rm))), some (.int (iI (ow + i)))] [] (cp w (cW C (a + i)) (aW A (exF (fun i => blF I F x (ow + i)) a i f)) V h, nx) := by
  intro n
  induction n with
  | zero =>
    intro i h1 h2 kk
    refine w_iload b dX0_writeLike_3 rfl ?_
    refine w_iload_n b dX0_writeLike_5 rfl ?_
    refine z_icmp_ge (tgt := 29) b dX0_writeLike_6 (by decide) (by omega) (fun c6 => ?_) (fun c6 => ?_)
    · obtain ei : i = rm - ow := by omega
      rw [ei]
      refine ww_forget 4 ?_
      exact kk
    · exfalso; omega
  | succ n ih =>
    intro i h1 h2 kk
    have ht2 := hR.t2
    refine w_iload b dX0_writeLike_3 rfl ?_
    refine w_iload_n b dX0_writeLike_5 rfl ?_
    refine z_icmp_ge (tgt := 29) b dX0_writeLike_6 (by decide) (by omega) (fun c6 => ?_) (fun c6 => ?_)
    · exfalso; omega
    · refine w_aload_n b dX0_writeLike_9 rfl rfl ?_
      refine w_aload_n b dX0_writeLike_10 rfl rfl ?_
      refine q_get b dX0_writeLike_11 lfX0_30 (tlt rfl) ct_230 rfl ?_
      refine w_iload_n b dX0_writeLike_14 rfl ?_
      refine w_iload b dX0_writeLike_15 rfl ?_
      refine c_V2 b dX0_writeLike_17 lmX0_125 (cpS (tlt rfl) ct_1) (k_X1_colourBelow (hR.cW _ _) (by omega) (by omega)) (tle rfl) (by omega) (by omega) (by omega) ?_
      refine y_top (y := blF I F x (ow + i)) (by unfold blF; have := hR.w1; (repeat' split) <;> first | rfl | omega) ?_
      refine c_V1v b dX0_writeLike_20 lmX0_118 (cpS (tlt rfl) ct_230) (k_X0_writeKnot (by omega) (blF_rng hR.b23 hR.t2 (by have := hR.w1; have := hR.w2; omega) hx.1 (by omega))) (tle rfl) (by omega) (by omega) (by omega) ?_
      refine z_iinc b dX0_writeLike_23 rfl rfl (show ow + i + 1 = ow + (i + 1) by omega) ?_
      refine w_goto (tgt := 3) b dX0_writeLike_26 (by decide) ?_
      rw [show a + i + 1 = a + (i + 1) by omega, exF_s h2 rfl]
      exact ih (i + 1) (by omega) (by omega) kk
set_option maxRecDepth 20000 in
theorem k_X0_writeLike {l0 : Launch} {g : Gw} {w nx : Nat} {h : Nat → va_E} {C : Nat → Nat → Int} {A : Nat → Int → Int} {V : Nat → Value} {a : Int} {f : Int → Int} {x ow rm : Int} {I : Nat → Int} {F : Nat → Int → Int} (hR : RCa w C A I F) (ha : 0 ≤ a ∧ a + (if ow < rm then rm - ow else 0) ≤ 1000) (hx : 1 ≤ x ∧ x ≤ 9) (ho : 0 ≤ ow) (ho2 : ow ≤ 1000) (hrm : rm ≤ 40) (hrm2 : -20000 ≤ rm) : MD l0 g 3 mX0_writeLike (cp w (cW C a) (aW A f) V h, nx) [.ref 230, .int (iI (x)), .int (iI (ow)), .int (iI (rm))] 0 0 (none) (cp w (cW C (a + if ow < rm then rm - ow else 0)) (aW A (exF (fun i => blF I F x (ow + i)) a (if ow < rm then rm - ow else 0) f)) V h, nx) := by
  refine MD.of (by decide +kernel) (by simp [Value.category]) (tle rfl) (fun X b => ?_)
  change WW X g _ _ 0 0 0 [some (.ref 230), some (.int (iI (x))), some (.int (iI (ow))), some (.int (iI (rm))), none] [] _
  refine w_iload_n b dX0_writeLike_0 rfl ?_
  refine w_istore b dX0_writeLike_1 (tlt rfl) rfl ?_
  by_cases hm : ow < rm
  · refine ww_cast (by rw [Int.add_zero]; rfl) rfl (by rw [show exF (fun i => blF I F x (ow + i)) a 0 f = f from exF_0 _ _ _, Int.add_zero]) (l_X0_writeLike (a := a) (f := f) (x := x) (ow := ow) (rm := rm) b hR (by rw [if_pos hm] at ha; exact ha) hx ho hrm (rm - ow).toNat 0 (by omega) (by omega) ?_)
    exact w_vret b dX0_writeLike_29 rfl (by omega) (by omega) ⟨rfl, by rw [if_pos hm]⟩
  · refine w_iload b dX0_writeLike_3 rfl ?_
    refine w_iload_n b dX0_writeLike_5 rfl ?_
    refine z_icmp_ge (tgt := 29) b dX0_writeLike_6 (by decide) (by omega) (fun c6 => ?_) (fun c6 => ?_)
    · exact w_vret b dX0_writeLike_29 rfl (by omega) (by omega) ⟨rfl, by rw [if_neg hm, Int.add_zero, exF_0]⟩
    · exfalso; omega
