/-! THE CLASS: fail, toss, element; the law's element (by p75.py) -/
set_option maxRecDepth 20000 in
theorem k_X5_fail0 {l0 : Launch} {g : Gw} {σ : Sg} {q : Nat} {k c n : Int} (hs : σ.1 q = .inr (5, [.int (iI k), .int (iI c), .int (iI n)])) (hk : 0 ≤ k ∧ k ≤ 5) (hb : k = 1 ∨ k = 2) : MD l0 g 1 mX5_fail σ [.ref q] 0 0 (none) σ := by
  refine MD.of (by decide +kernel) (by simp [Value.category]) (tle rfl) (fun X b => ?_)
  change WW X g _ _ 0 0 0 [some (.ref q)] [] _
  refine w_aload_n b dX5_fail_0 rfl rfl ?_
  refine c_V0 b dX5_fail_1 lmX5_25 hs (k_X5_hasN hs hk) (tle rfl) (by omega) (by omega) (by omega) ?_
  refine z_ifb_eq (tgt := 17) b dX5_fail_4 (by decide) (fun c4 => ?_) (fun c4 => ?_)
  · exact w_vret b dX5_fail_17 rfl (by omega) (by omega) ⟨rfl, rfl⟩
  · exact absurd hb c4
set_option maxRecDepth 20000 in
theorem k_X5_failT {l0 : Launch} {g : Gw} {σ : Sg} {q : Nat} {k c n : Int} (hl : l0.stackTraces = false) (hs : σ.1 q = .inr (5, [.int (iI k), .int (iI c), .int (iI n)])) (hk : 0 ≤ k ∧ k ≤ 5) (hb : ¬ (k = 1 ∨ k = 2)) : MT l0 g 7 mX5_fail σ [.ref q] 1 6 isE (va_up σ.1 σ.2 (.inr (12, [])), σ.2 + 1) := by
  refine MT.of (by decide +kernel) (by simp [Value.category]) (tle rfl) (fun X b hte => ?_)
  change WW X g _ _ 0 0 0 [some (.ref q)] [] _
  refine w_aload_n b dX5_fail_0 rfl rfl ?_
  refine c_V0 b dX5_fail_1 lmX5_25 hs (k_X5_hasN hs hk) (tle rfl) (by omega) (by omega) (by omega) ?_
  refine z_ifb_eq (tgt := 17) b dX5_fail_4 (by decide) (fun c4 => ?_) (fun c4 => ?_)
  · exact absurd c4 (fun z => z hb)
  · exact w_throwS (text := "the failure of a step") b hl hte twF rfl (by decide) dX5_fail_7 dX5_fail_10 dX5_fail_11 dX5_fail_13 dX5_fail_16 (by omega) (by simp) (by omega) (by omega)
set_option maxRecDepth 20000 in
theorem k_X8_toss0 {l0 : Launch} {g : Gw} {w nx : Nat} {h : Nat → va_E} {C : Nat → Nat → Int} {A : Nat → Int → Int} {V : Nat → Value} {d : Int} (hd : inR d) (hk : 0 ≤ d ∧ d ≤ 7 → inR (C (241 + 2 * d.toNat) 1)) (hv : 0 ≤ d ∧ d ≤ 7 → V (241 + 2 * d.toNat) = .null) : MH l0 g 9 mX8_toss hhT (cp w C A V h, nx) [.ref 0, .int (iI (d))] 1 6 (fun r σ' => r = some (.int (iI (if 0 ≤ d ∧ d ≤ 7 then (if C (241 + 2 * d.toNat) 1 = 0 then -11 else -12) else -1))) ∧ σ' = (cp w C A V h, nx)) := by
  have hso : MD l0 g 2 mX8_stepOn (cp w C A V h, nx) [.ref 0, .int (iI d)] 0 0 (some .null) (cp w C A V h, nx) := by
    by_cases z : 0 ≤ d ∧ d ≤ 7
    · exact k_X8_stepOn1 z (hv z) rfl
    · exact k_X8_stepOn0 hd z
  refine MH.of (by decide +kernel) (by simp [Value.category]) (tle rfl) (fun X b htb => ?_)
  change WW X g _ _ 0 0 0 [some (.ref 0), some (.int (iI (d))), none, none] [] _
  refine w_aload_n b dX8_toss_0 rfl rfl ?_
  refine w_iload_n b dX8_toss_1 rfl ?_
  refine c_V1 b dX8_toss_2 lmX8_296 (cpS (tlt rfl) ct_0) (hso) (tle rfl) (by omega) (by omega) (by omega) ?_
  refine w_astore_n b dX8_toss_5 (tlt rfl) rfl rfl ?_
  refine w_aload_n b dX8_toss_6 rfl rfl ?_
  refine w_ifnonnull_n b dX8_toss_7 ?_
  refine w_aload_n b dX8_toss_10 rfl rfl ?_
  refine w_iload_n b dX8_toss_11 rfl ?_
  refine c_V1 b dX8_toss_12 lmX8_300 (cpS (tlt rfl) ct_0) (k_X8_whyNoStepOn hd hk) (tle rfl) (by omega) (by omega) (by omega) ?_
  exact w_iret b dX8_toss_15 rfl (by omega) (by omega) ⟨iv_eq (by first | rfl | omega | ((try simp only [b2]); ((repeat' split) <;> (first | rfl | omega)))), rfl⟩
set_option maxRecDepth 20000 in
theorem k_X8_toss1 {l0 : Launch} {g : Gw} {w nx : Nat} {h : Nat → va_E} {C : Nat → Nat → Int} {A : Nat → Int → Int} {V : Nat → Value} {d k c n : Int} {q : Nat} (hd : 0 ≤ d ∧ d ≤ 7) (hv : V (241 + 2 * d.toNat) = .ref q) (hs : ((cp w C A V h, nx) : Sg).1 q = .inr (5, [.int (iI k), .int (iI c), .int (iI n)])) (hk : 0 ≤ k ∧ k ≤ 5) (hb : k = 1 ∨ k = 2) : MH l0 g 9 mX8_toss hhT (cp w C A V h, nx) [.ref 0, .int (iI (d))] 1 6 (fun r σ' => r = some (.int (iI (-15))) ∧ σ' = (cp w C A V h, nx)) := by
  refine MH.of (by decide +kernel) (by simp [Value.category]) (tle rfl) (fun X b htb => ?_)
  change WW X g _ _ 0 0 0 [some (.ref 0), some (.int (iI (d))), none, none] [] _
  refine w_aload_n b dX8_toss_0 rfl rfl ?_
  refine w_iload_n b dX8_toss_1 rfl ?_
  refine c_V1 b dX8_toss_2 lmX8_296 (cpS (tlt rfl) ct_0) (k_X8_stepOn1 hd hv rfl) (tle rfl) (by omega) (by omega) (by omega) ?_
  refine w_astore_n b dX8_toss_5 (tlt rfl) rfl rfl ?_
  refine w_aload_n b dX8_toss_6 rfl rfl ?_
  refine w_ifnonnull_r (tgt := 16) b dX8_toss_7 (by decide) ?_
  refine w_aload_n b dX8_toss_16 rfl rfl ?_
  refine c_V0v b dX8_toss_17 lmX8_306 hs (k_X5_fail0 hs hk hb) (tle rfl) (by omega) (by omega) (by omega) ?_
  refine w_goto (tgt := 29) b dX8_toss_20 (by decide) ?_
  refine z_bipush b dX8_toss_29 (by decide) ?_
  exact w_iret b dX8_toss_31 rfl (by omega) (by omega) ⟨iv_eq (by first | rfl | omega | ((try simp only [b2]); ((repeat' split) <;> (first | rfl | omega)))), rfl⟩
set_option maxRecDepth 20000 in
theorem k_X8_toss2 {l0 : Launch} {g : Gw} {w nx : Nat} {h : Nat → va_E} {C : Nat → Nat → Int} {A : Nat → Int → Int} {V : Nat → Value} {d k c n : Int} {q : Nat} (hl : l0.stackTraces = false) (hd : 0 ≤ d ∧ d ≤ 7) (hv : V (241 + 2 * d.toNat) = .ref q) (hs : ((cp w C A V h, nx) : Sg).1 q = .inr (5, [.int (iI k), .int (iI c), .int (iI n)])) (hk : 0 ≤ k ∧ k ≤ 5) (hb : ¬ (k = 1 ∨ k = 2)) (hx : 291 ≤ nx) (hq : q < nx) : MH l0 g 9 mX8_toss hhT (cp w C A V h, nx) [.ref 0, .int (iI (d))] 1 6 (fun r σ' => r = some (.int (iI (n))) ∧ σ' = (cp w C A V (va_up h nx (.inr (12, []))), nx + 1)) := by
  have hs2 : ((cp w C A V (va_up h nx (.inr (12, []))), nx + 1) : Sg).1 q = .inr (5, [.int (iI k), .int (iI c), .int (iI n)]) := by
    have z : cp w C A V h q = .inr (5, [.int (iI k), .int (iI c), .int (iI n)]) := hs
    show cp w C A V (va_up h nx _) q = _
    unfold cp at z ⊢
    split
    · rename_i y; rw [if_pos y] at z; rw [va_up_ne _ _ (by omega)]; exact z
    · rename_i y; rw [if_neg y] at z; exact z
  refine MH.of (by decide +kernel) (by simp [Value.category]) (tle rfl) (fun X b htb => ?_)
  change WW X g _ _ 0 0 0 [some (.ref 0), some (.int (iI (d))), none, none] [] _
  refine w_aload_n b dX8_toss_0 rfl rfl ?_
  refine w_iload_n b dX8_toss_1 rfl ?_
  refine c_V1 b dX8_toss_2 lmX8_296 (cpS (tlt rfl) ct_0) (k_X8_stepOn1 hd hv rfl) (tle rfl) (by omega) (by omega) (by omega) ?_
  refine w_astore_n b dX8_toss_5 (tlt rfl) rfl rfl ?_
  refine w_aload_n b dX8_toss_6 rfl rfl ?_
  refine w_ifnonnull_r (tgt := 16) b dX8_toss_7 (by decide) ?_
  refine w_aload_n b dX8_toss_16 rfl rfl ?_
  refine w_callVT (d' := 7) (mc' := 1) (ms' := 6) (st := []) (vs := []) (pre := []) (suf := []) (x := ⟨16, 20, 23, 277⟩) (name := isE) (i := 3) b dX8_toss_17 lmX8_306 rfl rfl hs (tle rfl) (by omega) (by omega) (by omega) (k_X5_failT hl hs hk hb) htb (fun z hz => absurd hz List.not_mem_nil) rfl (by decide) lcX8_277 (by simp [cdW]) (Or.inl ⟨3, rfl, dX8_toss_23, ?_⟩) (tlt rfl) rfl
  refine ww_cast (σ' := (cp w C A V (va_up h nx (.inr (12, []))), nx + 1)) rfl rfl (by show (va_up (cp w C A V h) nx _, nx + 1) = _; rw [cp_uph (by omega)]) ?_
  change WW X g _ _ (0 + 0 + 1) (0 + 0 + 6) 24 [some (.ref 0), some (.int (iI (d))), some (.ref q), none] [] _
  refine w_aload_n b dX8_toss_24 rfl rfl ?_
  refine w_getf b dX8_toss_25 lfX8_109 hs2 rfl ?_
  exact w_iret b dX8_toss_28 rfl (by omega) (by omega) ⟨rfl, rfl⟩
set_option maxRecDepth 20000 in
theorem k_X8_element0 {l0 : Launch} {g : Gw} {w nx : Nat} {h : Nat → va_E} {C : Nat → Nat → Int} {A : Nat → Int → Int} {V : Nat → Value} {d i : Int} (hd : 0 ≤ d ∧ d ≤ 7) (hk : C (241 + 2 * d.toNat) 1 = 3 ∨ C (241 + 2 * d.toNat) 1 = 4) (hz : 0 ≤ C (241 + 2 * d.toNat) 2 ∧ C (241 + 2 * d.toNat) 2 ≤ 60) (hi : 0 ≤ i ∧ i < C (241 + 2 * d.toNat) 2) : MD l0 g 2 mX8_element (cp w C A V h, nx) [.ref 0, .int (iI (d)), .int (iI (i))] 0 0 (some (.long (iI (A (241 + 2 * d.toNat + 1) i)).toInt64)) (cp w C A V h, nx) := by
  refine MD.of (by decide +kernel) (by simp [Value.category]) (tle rfl) (fun X b => ?_)
  change WW X g _ _ 0 0 0 [some (.ref 0), some (.int (iI (d))), some (.int (iI (i))), none] [] _
  refine w_iload_n b dX8_element_0 rfl ?_
  refine c_S1 b dX8_element_1 lmX8_242 (k_X8_isShelf (by omega)) (tle rfl) (by omega) (by omega) (by omega) ?_
  refine z_ifb_ne (tgt := 18) b dX8_element_4 (by decide) (fun c4 => ?_) (fun c4 => ?_)
  · refine w_aload_n b dX8_element_18 rfl rfl ?_
    refine q_get b dX8_element_19 lfX8_46 (tlt rfl) ct_0 rfl ?_
    refine w_iload_n b dX8_element_22 rfl ?_
    refine q_aald b dX8_element_23 (tlt rfl) ct_240 (by omega) (by omega) ?_
    refine w_astore_n b dX8_element_24 (tlt rfl) rfl rfl ?_
    refine w_aload_n b dX8_element_25 rfl rfl ?_
    refine c_V0 b dX8_element_26 lmX8_271 (cpS (by omega) (ct_shelf (by omega))) (k_X4_holdsRow (by omega) (by omega)) (tle rfl) (by omega) (by omega) (by omega) ?_
    refine z_ifb_eq (tgt := 46) b dX8_element_29 (by decide) (fun c29 => ?_) (fun c29 => ?_)
    · exfalso; omega
    · refine w_iload_n b dX8_element_32 rfl ?_
      refine z_iconst b dX8_element_33 ?_
      refine w_aload_n b dX8_element_34 rfl rfl ?_
      refine q_get b dX8_element_35 lfX8_274 (by omega) (ct_shelf (by omega)) rfl ?_
      refine z_iconst b dX8_element_38 ?_
      refine z_isub b dX8_element_39 ?_
      refine c_S3 b dX8_element_40 lmX8_74 (k_X8_isWithin (by omega) (by omega) (by omega)) (tle rfl) (by omega) (by omega) (by omega) ?_
      refine z_ifb_ne (tgt := 57) b dX8_element_43 (by decide) (fun c43 => ?_) (fun c43 => ?_)
      · refine w_aload_n b dX8_element_57 rfl rfl ?_
        refine q_get b dX8_element_58 lfX8_282 (by omega) (ct_shelf (by omega)) rfl ?_
        refine w_iload_n b dX8_element_61 rfl ?_
        refine q_sald b dX8_element_62 (by omega) (ct_shelf1 (by omega)) (by omega) ?_
        refine w_i2l b dX8_element_63 ?_
        exact w_lret b dX8_element_64 rfl (by omega) (by omega) ⟨rfl, rfl⟩
      · exfalso; omega
  · exfalso; omega
set_option maxRecDepth 20000 in
theorem k_X8_elementA {l0 : Launch} {g : Gw} {w nx : Nat} {h : Nat → va_E} {C : Nat → Nat → Int} {A : Nat → Int → Int} {V : Nat → Value} {d i : Int} (hl : l0.stackTraces = false) (hd : inR d) (hb : ¬ (0 ≤ d ∧ d ≤ 7)) : MT l0 g 7 mX8_element (cp w C A V h, nx) [.ref 0, .int (iI (d)), .int (iI (i))] 1 6 iaE (va_up (cp w C A V h) nx (.inr (11, [])), nx + 1) := by
  refine MT.of (by decide +kernel) (by simp [Value.category]) (tle rfl) (fun X b hte => ?_)
  change WW X g _ _ 0 0 0 [some (.ref 0), some (.int (iI (d))), some (.int (iI (i))), none] [] _
  refine w_iload_n b dX8_element_0 rfl ?_
  refine c_S1 b dX8_element_1 lmX8_242 (k_X8_isShelf (by omega)) (tle rfl) (by omega) (by omega) (by omega) ?_
  refine z_ifb_ne (tgt := 18) b dX8_element_4 (by decide) (fun c4 => ?_) (fun c4 => ?_)
  · exfalso; omega
  · exact w_throwSW (text := "no such shelf") b hl hte twA rfl (by decide) dX8_element_7 dX8_element_10 dX8_element_11 dX8_element_14 dX8_element_17 (by omega) (by simp) (by omega) (by omega)
set_option maxRecDepth 20000 in
theorem k_X8_elementS {l0 : Launch} {g : Gw} {w nx : Nat} {h : Nat → va_E} {C : Nat → Nat → Int} {A : Nat → Int → Int} {V : Nat → Value} {d i : Int} (hl : l0.stackTraces = false) (hd : 0 ≤ d ∧ d ≤ 7) (hi : inR i) (hk : inR (C (241 + 2 * d.toNat) 1)) (hz : 0 ≤ C (241 + 2 * d.toNat) 2 ∧ C (241 + 2 * d.toNat) 2 ≤ 60) (hb : ¬ (C (241 + 2 * d.toNat) 1 = 3 ∨ C (241 + 2 * d.toNat) 1 = 4) ∨ ¬ (0 ≤ i ∧ i < C (241 + 2 * d.toNat) 2)) : MT l0 g 7 mX8_element (cp w C A V h, nx) [.ref 0, .int (iI (d)), .int (iI (i))] 1 6 isE (va_up (cp w C A V h) nx (.inr (12, [])), nx + 1) := by
  refine MT.of (by decide +kernel) (by simp [Value.category]) (tle rfl) (fun X b hte => ?_)
  change WW X g _ _ 0 0 0 [some (.ref 0), some (.int (iI (d))), some (.int (iI (i))), none] [] _
  refine w_iload_n b dX8_element_0 rfl ?_
  refine c_S1 b dX8_element_1 lmX8_242 (k_X8_isShelf (by omega)) (tle rfl) (by omega) (by omega) (by omega) ?_
  refine z_ifb_ne (tgt := 18) b dX8_element_4 (by decide) (fun c4 => ?_) (fun c4 => ?_)
  · refine w_aload_n b dX8_element_18 rfl rfl ?_
    refine q_get b dX8_element_19 lfX8_46 (tlt rfl) ct_0 rfl ?_
    refine w_iload_n b dX8_element_22 rfl ?_
    refine q_aald b dX8_element_23 (tlt rfl) ct_240 (by omega) (by omega) ?_
    refine w_astore_n b dX8_element_24 (tlt rfl) rfl rfl ?_
    refine w_aload_n b dX8_element_25 rfl rfl ?_
    refine c_V0 b dX8_element_26 lmX8_271 (cpS (by omega) (ct_shelf (by omega))) (k_X4_holdsRow (by omega) (by omega)) (tle rfl) (by omega) (by omega) (by omega) ?_
    refine z_ifb_eq (tgt := 46) b dX8_element_29 (by decide) (fun c29 => ?_) (fun c29 => ?_)
    · exact w_throwSW (text := "no such place of a row on this shelf") b hl hte twS rfl (by decide) dX8_element_46 dX8_element_49 dX8_element_50 dX8_element_53 dX8_element_56 (by omega) (by simp) (by omega) (by omega)
    · refine w_iload_n b dX8_element_32 rfl ?_
      refine z_iconst b dX8_element_33 ?_
      refine w_aload_n b dX8_element_34 rfl rfl ?_
      refine q_get b dX8_element_35 lfX8_274 (by omega) (ct_shelf (by omega)) rfl ?_
      refine z_iconst b dX8_element_38 ?_
      refine z_isub b dX8_element_39 ?_
      refine c_S3 b dX8_element_40 lmX8_74 (k_X8_isWithin (by omega) (by omega) (by omega)) (tle rfl) (by omega) (by omega) (by omega) ?_
      refine z_ifb_ne (tgt := 57) b dX8_element_43 (by decide) (fun c43 => ?_) (fun c43 => ?_)
      · exfalso; omega
      · exact w_throwSW (text := "no such place of a row on this shelf") b hl hte twS rfl (by decide) dX8_element_46 dX8_element_49 dX8_element_50 dX8_element_53 dX8_element_56 (by omega) (by simp) (by omega) (by omega)
  · exfalso; omega
set_option maxRecDepth 20000 in
theorem k_L_element0 {l0 : Launch} {g : Gw} {w nx : Nat} {h : Nat → va_E} {C : Nat → Nat → Int} {A : Nat → Int → Int} {V : Nat → Value} {d i : Int} {f : Nat → Int64} (ho : h 290 = .inl (3, 1, .inr (.inl f))) (hd : 0 ≤ d ∧ d ≤ 7) (hk : C (241 + 2 * d.toNat) 1 = 3 ∨ C (241 + 2 * d.toNat) 1 = 4) (hz : 0 ≤ C (241 + 2 * d.toNat) 2 ∧ C (241 + 2 * d.toNat) 2 ≤ 60) (hi : 0 ≤ i ∧ i < C (241 + 2 * d.toNat) 2) : MH l0 g 9 mL_element hhE (cp w C A V h, nx) [.ref 0, .int (iI (d)), .int (iI (i)), .ref 290] 1 6 (fun r σ' => r = some (.int (iI (0))) ∧ σ' = (cp w C A V (va_up h 290 (.inl (3, 1, .inr (.inl (vp_updL f 0 (iI (A (241 + 2 * d.toNat + 1) i)).toInt64))))), nx)) := by
  have ho2 : ((cp w C A V h, nx) : Sg).1 290 = .inl (3, 1, .inr (.inl f)) := by
    show cp w C A V h 290 = _
    rw [cp_ge (by omega), ho]
  refine MH.of (by decide +kernel) (by simp [Value.category]) (tle rfl) (fun X b htb => ?_)
  change WW X g _ _ 0 0 0 [some (.ref 0), some (.int (iI (d))), some (.int (iI (i))), some (.ref 290), none] [] _
  refine w_aload_n b dL_element_0 rfl rfl ?_
  refine z_iconst b dL_element_1 ?_
  refine w_aload_n b dL_element_2 rfl rfl ?_
  refine w_iload_n b dL_element_3 rfl ?_
  refine w_iload_n b dL_element_4 rfl ?_
  refine c_V2 b dL_element_5 lmL_7 (cpS (tlt rfl) ct_0) (k_X8_element0 hd hk hz hi) (tle rfl) (by omega) (by omega) (by omega) ?_
  refine w_last b dL_element_8 ho2 (iI_in (by omega) (by omega) (by omega)) ?_
  refine ww_cast (σ' := (cp w C A V (va_up h 290 (.inl (3, 1, .inr (.inl (vp_updL f 0 (iI (A (241 + 2 * d.toNat + 1) i)).toInt64))))), nx)) rfl rfl (by rw [iI_clamp (by omega) (by omega)]; show (va_up (cp w C A V h) 290 _, nx) = _; rw [cp_uph (by omega)]; rfl) ?_
  refine w_goto (tgt := 20) b dL_element_9 (by decide) ?_
  refine z_iconst b dL_element_20 ?_
  exact w_iret b dL_element_21 rfl (by omega) (by omega) ⟨rfl, rfl⟩
set_option maxRecDepth 20000 in
theorem k_L_element1 {l0 : Launch} {g : Gw} {w nx : Nat} {h : Nat → va_E} {C : Nat → Nat → Int} {A : Nat → Int → Int} {V : Nat → Value} {d i : Int} (hl : l0.stackTraces = false) (hx : 291 ≤ nx) (hd : inR d) (hb : ¬ (0 ≤ d ∧ d ≤ 7)) : MH l0 g 9 mL_element hhE (cp w C A V h, nx) [.ref 0, .int (iI (d)), .int (iI (i)), .ref 290] 1 6 (fun r σ' => r = some (.int (iI (1))) ∧ σ' = (cp w C A V (va_up h nx (.inr (11, []))), nx + 1)) := by
  refine MH.of (by decide +kernel) (by simp [Value.category]) (tle rfl) (fun X b htb => ?_)
  change WW X g _ _ 0 0 0 [some (.ref 0), some (.int (iI (d))), some (.int (iI (i))), some (.ref 290), none] [] _
  refine w_aload_n b dL_element_0 rfl rfl ?_
  refine z_iconst b dL_element_1 ?_
  refine w_aload_n b dL_element_2 rfl rfl ?_
  refine w_iload_n b dL_element_3 rfl ?_
  refine w_iload_n b dL_element_4 rfl ?_
  refine w_callVT (d' := 7) (mc' := 1) (ms' := 6) (st := [.int (iI 0), .ref 290]) (vs := [.int (iI d), .int (iI i)]) (pre := []) (suf := [⟨0, 9, 16, 15⟩]) (x := ⟨0, 9, 12, 13⟩) (name := iaE) (i := 4) b dL_element_5 lmL_7 rfl rfl (cpS (tlt rfl) ct_0) (tle rfl) (by omega) (by omega) (by omega) (k_X8_elementA hl hd hb) htb (fun z hz => absurd hz List.not_mem_nil) rfl (by decide) lcL_13 (by simp [cdW]) (Or.inr ⟨dL_element_12, ?_⟩) (tlt rfl) rfl
  refine ww_cast (σ' := (cp w C A V (va_up h nx (.inr (11, []))), nx + 1)) rfl rfl (by show (va_up (cp w C A V h) nx _, nx + 1) = _; rw [cp_uph (by omega)]) ?_
  change WW X g _ _ (0 + 1) (0 + 6) 14 [some (.ref 0), some (.int (iI (d))), some (.int (iI (i))), some (.ref 290), none] [] _
  refine z_iconst b dL_element_14 ?_
  exact w_iret b dL_element_15 rfl (by omega) (by omega) ⟨rfl, rfl⟩
set_option maxRecDepth 20000 in
theorem k_L_element2 {l0 : Launch} {g : Gw} {w nx : Nat} {h : Nat → va_E} {C : Nat → Nat → Int} {A : Nat → Int → Int} {V : Nat → Value} {d i : Int} (hl : l0.stackTraces = false) (hx : 291 ≤ nx) (hd : 0 ≤ d ∧ d ≤ 7) (hi : inR i) (hk : inR (C (241 + 2 * d.toNat) 1)) (hz : 0 ≤ C (241 + 2 * d.toNat) 2 ∧ C (241 + 2 * d.toNat) 2 ≤ 60) (hb : ¬ (C (241 + 2 * d.toNat) 1 = 3 ∨ C (241 + 2 * d.toNat) 1 = 4) ∨ ¬ (0 ≤ i ∧ i < C (241 + 2 * d.toNat) 2)) : MH l0 g 9 mL_element hhE (cp w C A V h, nx) [.ref 0, .int (iI (d)), .int (iI (i)), .ref 290] 1 6 (fun r σ' => r = some (.int (iI (2))) ∧ σ' = (cp w C A V (va_up h nx (.inr (12, []))), nx + 1)) := by
  refine MH.of (by decide +kernel) (by simp [Value.category]) (tle rfl) (fun X b htb => ?_)
  change WW X g _ _ 0 0 0 [some (.ref 0), some (.int (iI (d))), some (.int (iI (i))), some (.ref 290), none] [] _
  refine w_aload_n b dL_element_0 rfl rfl ?_
  refine z_iconst b dL_element_1 ?_
  refine w_aload_n b dL_element_2 rfl rfl ?_
  refine w_iload_n b dL_element_3 rfl ?_
  refine w_iload_n b dL_element_4 rfl ?_
  refine w_callVT (d' := 7) (mc' := 1) (ms' := 6) (st := [.int (iI 0), .ref 290]) (vs := [.int (iI d), .int (iI i)]) (pre := [⟨0, 9, 12, 13⟩]) (suf := []) (x := ⟨0, 9, 16, 15⟩) (name := isE) (i := 4) b dL_element_5 lmL_7 rfl rfl (cpS (tlt rfl) ct_0) (tle rfl) (by omega) (by omega) (by omega) (k_X8_elementS hl hd hi hk hz hb) htb (fun z hz => by rw [List.mem_singleton.mp hz]; exact Or.inr ⟨by decide, iaE, lcL_13, rfl, rfl⟩) rfl (by decide) lcL_15 (by simp [cdW]) (Or.inr ⟨dL_element_16, ?_⟩) (tlt rfl) rfl
  refine ww_cast (σ' := (cp w C A V (va_up h nx (.inr (12, []))), nx + 1)) rfl rfl (by show (va_up (cp w C A V h) nx _, nx + 1) = _; rw [cp_uph (by omega)]) ?_
  change WW X g _ _ (0 + 1) (0 + 6) 18 [some (.ref 0), some (.int (iI (d))), some (.int (iI (i))), some (.ref 290), none] [] _
  refine z_iconst b dL_element_18 ?_
  exact w_iret b dL_element_19 rfl (by omega) (by omega) ⟨rfl, rfl⟩
