/-! THE CLASS: villages (by p65.py) -/
/-- how many bits a number below 256 has -/
def bcF (x : Int) : Int := sumA (fun k => x / 2 ^ k.toNat % 2) 8 0 0
def usI (x y : Int32) : Int32 := (x.toUInt32 >>> (y.toUInt32 &&& Int32.toUInt32 31)).toInt32
def bcI1 (x : Int32) : Int32 := x - (usI x (iI 1) &&& 1431655765)
def bcI2 (x : Int32) : Int32 := (x &&& 858993459) + (usI x (iI 2) &&& 858993459)
def bcI3 (x : Int32) : Int32 := (x + usI x (iI 4)) &&& 252645135
def bcI4 (x : Int32) : Int32 := x + usI x (iI 8)
def bcI5 (x : Int32) : Int32 := x + usI x (iI 16)
def bcI (x : Int32) : Int32 := bcI5 (bcI4 (bcI3 (bcI2 (bcI1 x)))) &&& iI 63
theorem bc_tab : ∀ n : Fin 256, bcI (nI n.val) = iI (bcF (n.val : Int)) := by decide +kernel
theorem bcI_at {x : Int} (hx : 0 ≤ x ∧ x < 256) : bcI (iI x) = iI (bcF x) := by
  obtain ⟨n, rfl⟩ := Int.eq_ofNat_of_zero_le hx.1
  have h := bc_tab ⟨n, by omega⟩
  rw [iI_nat]
  exact h
theorem bcF_rng (x : Int) : 0 ≤ bcF x ∧ bcF x ≤ 8 := by
  have h := sumA_bd (f := fun k => x / 2 ^ k.toNat % 2) (lo := 0) (hi := 1) 8 0 0 (fun j _ _ => by omega)
  unfold bcF
  omega
set_option maxRecDepth 20000 in
theorem k_J6_bitCount {l0 : Launch} {g : Gw} {σ : Sg} {x : Int} (hx : 0 ≤ x ∧ x < 256) : MD l0 g 0 mJ6_bitCount_0f7a4 σ [.int (iI (x))] 0 0 (some (.int (iI (bcF x)))) σ := by
  refine MD.of (by decide +kernel) (by simp [Value.category]) (tle rfl) (fun X b => ?_)
  change WW X g _ _ 0 0 0 [some (.int (iI (x)))] [] _
  refine w_iload_n b dJ6_bitCount_0f7a4_0 rfl ?_
  refine w_iload_n b dJ6_bitCount_0f7a4_1 rfl ?_
  refine z_iconst b dJ6_bitCount_0f7a4_2 ?_
  refine w_iushr b dJ6_bitCount_0f7a4_3 ?_
  refine w_ldcw b dJ6_bitCount_0f7a4_4 lkJ6_265 ?_
  refine w_iand b dJ6_bitCount_0f7a4_7 ?_
  refine w_isub b dJ6_bitCount_0f7a4_8 ?_
  refine w_istore_n b dJ6_bitCount_0f7a4_9 (tlt rfl) rfl ?_
  refine w_iload_n b dJ6_bitCount_0f7a4_10 rfl ?_
  refine w_ldcw b dJ6_bitCount_0f7a4_11 lkJ6_266 ?_
  refine w_iand b dJ6_bitCount_0f7a4_14 ?_
  refine w_iload_n b dJ6_bitCount_0f7a4_15 rfl ?_
  refine z_iconst b dJ6_bitCount_0f7a4_16 ?_
  refine w_iushr b dJ6_bitCount_0f7a4_17 ?_
  refine w_ldcw b dJ6_bitCount_0f7a4_18 lkJ6_266 ?_
  refine w_iand b dJ6_bitCount_0f7a4_21 ?_
  refine w_iadd b dJ6_bitCount_0f7a4_22 ?_
  refine w_istore_n b dJ6_bitCount_0f7a4_23 (tlt rfl) rfl ?_
  refine w_iload_n b dJ6_bitCount_0f7a4_24 rfl ?_
  refine w_iload_n b dJ6_bitCount_0f7a4_25 rfl ?_
  refine z_iconst b dJ6_bitCount_0f7a4_26 ?_
  refine w_iushr b dJ6_bitCount_0f7a4_27 ?_
  refine w_iadd b dJ6_bitCount_0f7a4_28 ?_
  refine w_ldcw b dJ6_bitCount_0f7a4_29 lkJ6_267 ?_
  refine w_iand b dJ6_bitCount_0f7a4_32 ?_
  refine w_istore_n b dJ6_bitCount_0f7a4_33 (tlt rfl) rfl ?_
  refine w_iload_n b dJ6_bitCount_0f7a4_34 rfl ?_
  refine w_iload_n b dJ6_bitCount_0f7a4_35 rfl ?_
  refine z_bipush b dJ6_bitCount_0f7a4_36 (by decide) ?_
  refine w_iushr b dJ6_bitCount_0f7a4_38 ?_
  refine w_iadd b dJ6_bitCount_0f7a4_39 ?_
  refine w_istore_n b dJ6_bitCount_0f7a4_40 (tlt rfl) rfl ?_
  refine w_iload_n b dJ6_bitCount_0f7a4_41 rfl ?_
  refine w_iload_n b dJ6_bitCount_0f7a4_42 rfl ?_
  refine z_bipush b dJ6_bitCount_0f7a4_43 (by decide) ?_
  refine w_iushr b dJ6_bitCount_0f7a4_45 ?_
  refine w_iadd b dJ6_bitCount_0f7a4_46 ?_
  refine w_istore_n b dJ6_bitCount_0f7a4_47 (tlt rfl) rfl ?_
  refine w_iload_n b dJ6_bitCount_0f7a4_48 rfl ?_
  refine z_bipush b dJ6_bitCount_0f7a4_49 (by decide) ?_
  refine w_iand b dJ6_bitCount_0f7a4_51 ?_
  exact w_iret b dJ6_bitCount_0f7a4_52 rfl (by omega) (by omega) ⟨congrArg (fun z => some (Value.int z)) (bcI_at hx), rfl⟩
set_option maxRecDepth 20000 in
theorem k_X6_apart {l0 : Launch} {g : Gw} {w nx : Nat} {h : Nat → va_E} {C : Nat → Nat → Int} {A : Nat → Int → Int} {V : Nat → Value} {a c : Int} (ha : 0 ≤ a ∧ a < 8) (hc : 0 ≤ c ∧ c < 8) (h30 : ∀ j, 0 ≤ j → j < 8 → 0 ≤ A 235 j ∧ A 235 j < 2 ^ 8) : MD l0 g 1 mX6_apart (cp w C A V h, nx) [.ref 234, .int (iI (a)), .int (iI (c))] 0 0 (some (.int (iI (apF (A 235 a) (A 235 c))))) (cp w C A V h, nx) := by
  refine MD.of (by decide +kernel) (by simp [Value.category]) (tle rfl) (fun X b => ?_)
  change WW X g _ _ 0 0 0 [some (.ref 234), some (.int (iI (a))), some (.int (iI (c)))] [] _
  refine w_aload_n b dX6_apart_0 rfl rfl ?_
  refine q_get b dX6_apart_1 lfX6_9 (tlt rfl) ct_234 rfl ?_
  refine w_iload_n b dX6_apart_4 rfl ?_
  refine q_iald b dX6_apart_5 (tlt rfl) ct_235 (by omega) ?_
  refine w_aload_n b dX6_apart_6 rfl rfl ?_
  refine q_get b dX6_apart_7 lfX6_9 (tlt rfl) ct_234 rfl ?_
  refine w_iload_n b dX6_apart_10 rfl ?_
  refine q_iald b dX6_apart_11 (tlt rfl) ct_235 (by omega) ?_
  refine z_ixor b dX6_apart_12 ⟨(h30 a (by omega) (by omega)).1, (h30 c (by omega) (by omega)).1⟩ ?_
  have hz := zx_rng (h30 a ha.1 ha.2) (h30 c hc.1 hc.2)
  refine c_S1 b dX6_apart_13 lmX6_34 (k_J6_bitCount (by omega)) (tle rfl) (by omega) (by omega) (by omega) ?_
  exact w_iret b dX6_apart_16 rfl (by omega) (by omega) ⟨iv_eq (by first | rfl | omega | ((try simp only [b2]); ((repeat' split) <;> (first | rfl | omega)))), rfl⟩
/-- the class's villages with the tree t -/
def cT (C : Nat → Nat → Int) (t : TrS) : Nat → Nat → Int := va_up C 234 (va_up (va_up (C 234) 6 t.2.2.1) 7 t.2.2.2)
def aT (A : Nat → Int → Int) (t : TrS) : Nat → Int → Int := va_up (va_up A 236 t.1) 239 t.2.1
theorem cT_J (C : Nat → Nat → Int) (t : TrS) (v : Nat) (far a b : Int) : va_up (va_up (cT C t) 234 (va_up (cT C t 234) 6 (t.2.2.1 + 1))) 234 (va_up (va_up (cT C t 234) 6 (t.2.2.1 + 1)) 7 (t.2.2.2 + far)) = cT C (trJ v far a b t) := by
  funext j
  by_cases h1 : j = 234
  · subst h1
    funext k
    by_cases h2 : k = 7
    · subst h2; rfl
    · by_cases h3 : k = 6
      · subst h3; rfl
      · simp [cT, va_up, h2, h3]
  · simp [cT, va_up, h1]
theorem aT_J (A : Nat → Int → Int) (t : TrS) (v : Nat) (far a b : Int) : va_up (va_up (aT A t) 239 (fu t.2.1 t.2.2.1 (10 * a + b))) 236 (joinA (t.1 b) (t.1 a) v 0 t.1) = aT A (trJ v far a b t) := by
  funext j
  by_cases h1 : j = 236
  · subst h1; rfl
  · by_cases h2 : j = 239
    · subst h2; rfl
    · simp [aT, va_up, h1, h2]
theorem cT_0 (C : Nat → Nat → Int) (f l : Int → Int) : va_up (va_up C 234 (va_up (C 234) 6 0)) 234 (va_up (va_up (C 234) 6 0) 7 0) = cT C (f, l, 0, 0) := by
  funext j
  by_cases h1 : j = 234
  · subst h1; rfl
  · simp [cT, va_up, h1]
theorem aT_0 (A : Nat → Int → Int) (f : Int → Int) (x y : Int) : va_up A 236 f = aT A (f, A 239, x, y) := by
  funext j
  by_cases h1 : j = 239
  · subst h1; rfl
  · simp [aT, va_up, h1]
set_option maxRecDepth 20000 in
theorem l_X6_join {X : Cx} {l0 : Launch} {g : Gw} {Z : State → Prop} {w nx : Nat} {h : Nat → va_E} {C : Nat → Nat → Int} {A : Nat → Int → Int} {V : Nat → Value} (b : BX X l0 g mX6_join 2 0 0) {a c x y : Int} {v : Nat}  (hn : C 234 5 = (v : Int)) (hv : v ≤ 8) (ha : 0 ≤ a ∧ a < (v : Int)) (hx : inR x) (hy : inR y) : ∀ (n : Nat) (i : Int) (f : Int → Int), (i + n = v) → (0 ≤ i) → (f a = y) → (∀ j, 0 ≤ j → j < (v : Int) → inR (f j)) → WW X g mX6_join.2.2.1 Z 0 0 101 [some (.ref 234), some (.int (iI (a))), some (.int (iI (c))), some (.int (iI (x))), none] [] (cp w C (va_up A 236 (joinA x y n i f)) V h, nx) → WW X g mX6_join.2.2.1 Z 0 0 62 [some (.ref 234), some (.int (iI (a))), some (.int (iI (c))), some (.int (iI (x))), some (.int (iI (i)))] [] (cp w C (va_up A 236 f) V h, nx) := by
  intro n
  induction n with
  | zero =>
    intro i f h1 h2 hf hin kk
    refine w_iload b dX6_join_62 rfl ?_
    refine w_aload_n b dX6_join_64 rfl rfl ?_
    refine q_get b dX6_join_65 lfX6_27 (tlt rfl) ct_234 rfl ?_
    refine z_icmp_ge (tgt := 101) b dX6_join_68 (by decide) (by omega) (fun c68 => ?_) (fun c68 => ?_)
    · refine ww_forget 4 ?_
      exact kk
    · exfalso; omega
  | succ n ih =>
    intro i f h1 h2 hf hin kk
    refine w_iload b dX6_join_62 rfl ?_
    refine w_aload_n b dX6_join_64 rfl rfl ?_
    refine q_get b dX6_join_65 lfX6_27 (tlt rfl) ct_234 rfl ?_
    refine z_icmp_ge (tgt := 101) b dX6_join_68 (by decide) (by omega) (fun c68 => ?_) (fun c68 => ?_)
    · exfalso; omega
    · refine w_aload_n b dX6_join_71 rfl rfl ?_
      refine q_get b dX6_join_72 lfX6_15 (tlt rfl) ct_234 rfl ?_
      refine w_iload b dX6_join_75 rfl ?_
      refine q_iald b dX6_join_77 (tlt rfl) ct_236 (by omega) ?_
      refine y_top (y := f i) rfl ?_
      refine w_iload_n b dX6_join_78 rfl ?_
      refine z_icmp_ne (tgt := 95) b dX6_join_79 (by decide) ⟨hin i (by omega) (by omega), hx⟩ (fun c79 => ?_) (fun c79 => ?_)
      · have e1 : joinA x y (n + 1) i f = joinA x y n (i + 1) (f) := by
          conv => lhs; unfold joinA
          rw [if_neg c79]
        rw [e1] at kk
        refine z_iinc b dX6_join_95 rfl rfl rfl ?_
        refine w_goto (tgt := 62) b dX6_join_98 (by decide) ?_
        exact ih (i + 1) f (by omega) (by omega) hf hin kk
      · have e1 : joinA x y (n + 1) i f = joinA x y n (i + 1) (fu f i y) := by
          conv => lhs; unfold joinA
          rw [if_pos c79]
        rw [e1] at kk
        refine w_aload_n b dX6_join_82 rfl rfl ?_
        refine q_get b dX6_join_83 lfX6_15 (tlt rfl) ct_234 rfl ?_
        refine w_iload b dX6_join_86 rfl ?_
        refine w_aload_n b dX6_join_88 rfl rfl ?_
        refine q_get b dX6_join_89 lfX6_15 (tlt rfl) ct_234 rfl ?_
        refine w_iload_n b dX6_join_92 rfl ?_
        refine q_iald b dX6_join_93 (tlt rfl) ct_236 (by omega) ?_
        refine y_top (y := y) hf ?_
        refine q_iast b dX6_join_94 (tlt rfl) (fun _ => ct_236) (by omega) ?_
        refine ww_cast (σ' := (cp w C (va_up A 236 (fu f i y)) V h, nx)) rfl rfl (by rw [va_up_twice]; rfl) ?_
        refine z_iinc b dX6_join_95 rfl rfl rfl ?_
        refine w_goto (tgt := 62) b dX6_join_98 (by decide) ?_
        exact ih (i + 1) (fu f i y) (by omega) (by omega) (by by_cases q : a = i; (· rw [q, fu_s]); (· rw [fu_n q]; exact hf)) (fu_inR hin hy) kk
set_option maxRecDepth 20000 in
theorem k_X6_join {l0 : Launch} {g : Gw} {w nx : Nat} {h : Nat → va_E} {C : Nat → Nat → Int} {A : Nat → Int → Int} {V : Nat → Value} {a c : Int} {v : Nat} {t : TrS} (hn : C 234 5 = (v : Int)) (hv : v ≤ 8) (h30 : ∀ j, 0 ≤ j → j < 8 → 0 ≤ A 235 j ∧ A 235 j < 2 ^ 8) (hG : gInv v t) (ha : 0 ≤ a ∧ a < (v : Int)) (hc : 0 ≤ c ∧ c < (v : Int)) : MD l0 g 2 mX6_join (cp w (cT C t) (aT A t) V h, nx) [.ref 234, .int (iI (a)), .int (iI (c))] 0 0 (none) (cp w (cT C (trJ v (apF (A 235 a) (A 235 c)) a c t)) (aT A (trJ v (apF (A 235 a) (A 235 c)) a c t)) V h, nx) := by
  have hl := gInv_links hG (by omega)
  have hin := gInv_in hG hv
  refine MD.of (by decide +kernel) (by simp [Value.category]) (tle rfl) (fun X b => ?_)
  change WW X g _ _ 0 0 0 [some (.ref 234), some (.int (iI (a))), some (.int (iI (c))), none, none] [] _
  refine w_aload_n b dX6_join_0 rfl rfl ?_
  refine q_get (v := .int (iI t.2.2.1)) b dX6_join_1 lfX6_40 (tlt rfl) ct_234 rfl ?_
  refine w_aload_n b dX6_join_4 rfl rfl ?_
  refine q_get b dX6_join_5 lfX6_24 (tlt rfl) ct_234 rfl ?_
  refine q_alen b dX6_join_8 (tlt rfl) ct_239 (tlt rfl) ?_
  refine z_icmp_ge (tgt := 37) b dX6_join_9 (by decide) (by omega) (fun c9 => ?_) (fun c9 => ?_)
  · exfalso; omega
  · refine w_aload_n b dX6_join_12 rfl rfl ?_
    refine q_get b dX6_join_13 lfX6_24 (tlt rfl) ct_234 rfl ?_
    refine w_aload_n b dX6_join_16 rfl rfl ?_
    refine q_get (v := .int (iI t.2.2.1)) b dX6_join_17 lfX6_40 (tlt rfl) ct_234 rfl ?_
    refine z_bipush b dX6_join_20 (by decide) ?_
    refine w_iload_n b dX6_join_22 rfl ?_
    refine z_imul b dX6_join_23 ?_
    refine w_iload_n b dX6_join_24 rfl ?_
    refine z_iadd b dX6_join_25 ?_
    refine q_iast b dX6_join_26 (tlt rfl) (fun _ => ct_239) (by omega) ?_
    refine w_aload_n b dX6_join_27 rfl rfl ?_
    refine w_dup b dX6_join_28 rfl ?_
    refine q_get (v := .int (iI t.2.2.1)) b dX6_join_29 lfX6_40 (tlt rfl) ct_234 rfl ?_
    refine z_iconst b dX6_join_32 ?_
    refine z_iadd b dX6_join_33 ?_
    refine q_put b dX6_join_34 lfX6_40 gcX6 gtX6_6 (tlt rfl) (fun _ => ct_234) (tlt rfl) rfl ?_
    refine w_aload_n b dX6_join_37 rfl rfl ?_
    refine w_dup b dX6_join_38 rfl ?_
    refine q_get (v := .int (iI t.2.2.2)) b dX6_join_39 lfX6_43 (tlt rfl) ct_234 rfl ?_
    refine w_aload_n b dX6_join_42 rfl rfl ?_
    refine w_iload_n b dX6_join_43 rfl ?_
    refine w_iload_n b dX6_join_44 rfl ?_
    refine c_V2 (w := .int (iI (apF (A 235 a) (A 235 c)))) b dX6_join_45 lmX6_46 (cpS (tlt rfl) ct_234) (k_X6_apart (by omega) (by omega) h30) (tle rfl) (by omega) (by omega) (by omega) ?_
    refine z_iadd b dX6_join_48 ?_
    refine q_put b dX6_join_49 lfX6_43 gcX6 gtX6_7 (tlt rfl) (fun _ => ct_234) (tlt rfl) rfl ?_
    refine w_aload_n b dX6_join_52 rfl rfl ?_
    refine q_get b dX6_join_53 lfX6_15 (tlt rfl) ct_234 rfl ?_
    refine w_iload_n b dX6_join_56 rfl ?_
    refine q_iald b dX6_join_57 (tlt rfl) ct_236 (by omega) ?_
    refine y_top (y := t.1 c) rfl ?_
    refine w_istore_n b dX6_join_58 (tlt rfl) rfl ?_
    refine z_iconst b dX6_join_59 ?_
    refine w_istore b dX6_join_60 (tlt rfl) rfl ?_
    refine ww_cast (σ' := (cp w (cT C (trJ v (apF (A 235 a) (A 235 c)) a c t)) (va_up (va_up (aT A t) 239 (fu t.2.1 t.2.2.1 (10 * a + c))) 236 t.1) V h, nx)) rfl rfl ?_ ?_
    · rw [← cT_J]
      exact congrArg (fun z => (cp w _ z V h, nx)) (va_up_same (va_up (aT A t) 239 (fu t.2.1 t.2.2.1 (10 * a + c))) 236).symm
    refine l_X6_join (C := cT C (trJ v (apF (A 235 a) (A 235 c)) a c t)) (A := va_up (aT A t) 239 (fu t.2.1 t.2.2.1 (10 * a + c))) (v := v) b hn hv ha (x := t.1 c) (y := t.1 a) (hin c hc.1 hc.2) (hin a ha.1 ha.2) v 0 t.1 (by omega) (by omega) rfl hin ?_
    rw [aT_J]
    exact w_vret b dX6_join_101 rfl (by omega) (by omega) ⟨rfl, rfl⟩
set_option maxRecDepth 20000 in
theorem l_X6_growTree3 {X : Cx} {l0 : Launch} {g : Gw} {Z : State → Prop} {w nx : Nat} {h : Nat → va_E} {C : Nat → Nat → Int} {A : Nat → Int → Int} {V : Nat → Value} (b : BX X l0 g mX6_growTree 3 0 0) {far a : Int} {v : Nat} (hn : C 234 5 = (v : Int)) (hv : v ≤ 8) (h30 : ∀ j, 0 ≤ j → j < 8 → 0 ≤ A 235 j ∧ A 235 j < 2 ^ 8) (hf : 0 ≤ far ∧ far ≤ 8) (ha : 0 ≤ a ∧ a < (v : Int)) : ∀ (n : Nat) (c : Int) (t : TrS), (c + n = v) → (0 ≤ c) → (gInv v t) → WW X g mX6_growTree.2.2.1 Z 0 0 100 [some (.ref 234), some (.int (iI (far))), some (.int (iI (a))), none] [] (cp w (cT C (trB (A 235) v far a n c t)) (aT A (trB (A 235) v far a n c t)) V h, nx) → WW X g mX6_growTree.2.2.1 Z 0 0 55 [some (.ref 234), some (.int (iI (far))), some (.int (iI (a))), some (.int (iI (c)))] [] (cp w (cT C t) (aT A t) V h, nx) := by
  intro n
  induction n with
  | zero =>
    intro c t h1 h2 hG kk
    refine w_iload_n b dX6_growTree_55 rfl ?_
    refine w_aload_n b dX6_growTree_56 rfl rfl ?_
    refine q_get (v := .int (iI (C 234 5))) b dX6_growTree_57 lfX6_27 (tlt rfl) ct_234 rfl ?_
    refine z_icmp_ge (tgt := 100) b dX6_growTree_60 (by decide) (by omega) (fun c60 => ?_) (fun c60 => ?_)
    · refine ww_forget 3 ?_
      exact kk
    · exfalso; omega
  | succ n ih =>
    intro c t h1 h2 hG kk
    have hin := gInv_in hG hv
    refine w_iload_n b dX6_growTree_55 rfl ?_
    refine w_aload_n b dX6_growTree_56 rfl rfl ?_
    refine q_get (v := .int (iI (C 234 5))) b dX6_growTree_57 lfX6_27 (tlt rfl) ct_234 rfl ?_
    refine z_icmp_ge (tgt := 100) b dX6_growTree_60 (by decide) (by omega) (fun c60 => ?_) (fun c60 => ?_)
    · exfalso; omega
    · refine w_aload_n b dX6_growTree_63 rfl rfl ?_
      refine w_iload_n b dX6_growTree_64 rfl ?_
      refine w_iload_n b dX6_growTree_65 rfl ?_
      refine c_V2 (w := .int (iI (apF (A 235 a) (A 235 c)))) b dX6_growTree_66 lmX6_46 (cpS (tlt rfl) ct_234) (k_X6_apart (A := aT A t) (by omega) (by omega) h30) (tle rfl) (by omega) (by omega) (by omega) ?_
      refine w_iload_n b dX6_growTree_69 rfl ?_
      refine z_icmp_ne (tgt := 94) b dX6_growTree_70 (by decide) (by have := apF_rng (A 235 a) (A 235 c); omega) (fun c70 => ?_) (fun c70 => ?_)
      · have e1 : trB (A 235) v far a (n + 1) c t = trB (A 235) v far a n (c + 1) (t) := by
          conv => lhs; unfold trB
          rw [if_neg (fun z => c70 z.1)]
        rw [e1] at kk
        refine z_iinc b dX6_growTree_94 rfl rfl rfl ?_
        refine w_goto (tgt := 55) b dX6_growTree_97 (by decide) ?_
        exact ih (c + 1) t (by omega) (by omega) hG kk
      · refine w_aload_n b dX6_growTree_73 rfl rfl ?_
        refine q_get b dX6_growTree_74 lfX6_15 (tlt rfl) ct_234 rfl ?_
        refine w_iload_n b dX6_growTree_77 rfl ?_
        refine q_iald b dX6_growTree_78 (tlt rfl) ct_236 (by omega) ?_
        refine y_top (y := t.1 a) rfl ?_
        refine w_aload_n b dX6_growTree_79 rfl rfl ?_
        refine q_get b dX6_growTree_80 lfX6_15 (tlt rfl) ct_234 rfl ?_
        refine w_iload_n b dX6_growTree_83 rfl ?_
        refine q_iald b dX6_growTree_84 (tlt rfl) ct_236 (by omega) ?_
        refine y_top (y := t.1 c) rfl ?_
        refine z_icmp_eq (tgt := 94) b dX6_growTree_85 (by decide) ⟨hin a (by omega) (by omega), hin c (by omega) (by omega)⟩ (fun c85 => ?_) (fun c85 => ?_)
        · have e1 : trB (A 235) v far a (n + 1) c t = trB (A 235) v far a n (c + 1) (t) := by
            conv => lhs; unfold trB
            rw [if_neg (fun z => z.2 c85)]
          rw [e1] at kk
          refine z_iinc b dX6_growTree_94 rfl rfl rfl ?_
          refine w_goto (tgt := 55) b dX6_growTree_97 (by decide) ?_
          exact ih (c + 1) t (by omega) (by omega) hG kk
        · refine w_aload_n b dX6_growTree_88 rfl rfl ?_
          refine w_iload_n b dX6_growTree_89 rfl ?_
          refine w_iload_n b dX6_growTree_90 rfl ?_
          have hJ := gInv_J (far := far) hG (by omega : 0 ≤ a ∧ a < v) (by omega : 0 ≤ c ∧ c < v) c85
          refine c_V2v b dX6_growTree_91 lmX6_50 (cpS (tlt rfl) ct_234) (k_X6_join hn hv h30 hG (by omega) (by omega)) (tle rfl) (by omega) (by omega) (by omega) ?_
          rw [c70]
          have e1 : trB (A 235) v far a (n + 1) c t = trB (A 235) v far a n (c + 1) (trJ v far a c t) := by
            conv => lhs; unfold trB
            rw [if_pos ⟨c70, c85⟩]
          rw [e1] at kk
          refine z_iinc b dX6_growTree_94 rfl rfl rfl ?_
          refine w_goto (tgt := 55) b dX6_growTree_97 (by decide) ?_
          exact ih (c + 1) (trJ v far a c t) (by omega) (by omega) hJ.1 kk
set_option maxRecDepth 20000 in
theorem l_X6_growTree2 {X : Cx} {l0 : Launch} {g : Gw} {Z : State → Prop} {w nx : Nat} {h : Nat → va_E} {C : Nat → Nat → Int} {A : Nat → Int → Int} {V : Nat → Value} (b : BX X l0 g mX6_growTree 3 0 0) {far : Int} {v : Nat} (hn : C 234 5 = (v : Int)) (hv : v ≤ 8) (h30 : ∀ j, 0 ≤ j → j < 8 → 0 ≤ A 235 j ∧ A 235 j < 2 ^ 8) (hf : 0 ≤ far ∧ far ≤ 8) : ∀ (n : Nat) (a : Int) (t : TrS), (a + n = v) → (0 ≤ a) → (gInv v t) → WW X g mX6_growTree.2.2.1 Z 0 0 106 [some (.ref 234), some (.int (iI (far))), none, none] [] (cp w (cT C (trA (A 235) v far n a t)) (aT A (trA (A 235) v far n a t)) V h, nx) → WW X g mX6_growTree.2.2.1 Z 0 0 43 [some (.ref 234), some (.int (iI (far))), some (.int (iI (a))), none] [] (cp w (cT C t) (aT A t) V h, nx) := by
  intro n
  induction n with
  | zero =>
    intro a t h1 h2 hG kk
    refine w_iload_n b dX6_growTree_43 rfl ?_
    refine w_aload_n b dX6_growTree_44 rfl rfl ?_
    refine q_get (v := .int (iI (C 234 5))) b dX6_growTree_45 lfX6_27 (tlt rfl) ct_234 rfl ?_
    refine z_icmp_ge (tgt := 106) b dX6_growTree_48 (by decide) (by omega) (fun c48 => ?_) (fun c48 => ?_)
    · refine ww_forget 2 ?_
      exact kk
    · exfalso; omega
  | succ n ih =>
    intro a t h1 h2 hG kk
    refine w_iload_n b dX6_growTree_43 rfl ?_
    refine w_aload_n b dX6_growTree_44 rfl rfl ?_
    refine q_get (v := .int (iI (C 234 5))) b dX6_growTree_45 lfX6_27 (tlt rfl) ct_234 rfl ?_
    refine z_icmp_ge (tgt := 106) b dX6_growTree_48 (by decide) (by omega) (fun c48 => ?_) (fun c48 => ?_)
    · exfalso; omega
    · refine w_iload_n b dX6_growTree_51 rfl ?_
      refine z_iconst b dX6_growTree_52 ?_
      refine z_iadd b dX6_growTree_53 ?_
      refine w_istore_n b dX6_growTree_54 (tlt rfl) rfl ?_
      refine l_X6_growTree3 b hn hv h30 hf (by omega) ((v : Int) - (a + 1)).toNat (a + 1) t (by omega) (by omega) hG ?_
      refine z_iinc b dX6_growTree_100 rfl rfl rfl ?_
      refine w_goto (tgt := 43) b dX6_growTree_103 (by decide) ?_
      exact ih (a + 1) _ (by omega) (by omega) (gInv_B (by omega) _ _ _ (by omega) (by omega) hG) kk
set_option maxRecDepth 20000 in
theorem l_X6_growTree1 {X : Cx} {l0 : Launch} {g : Gw} {Z : State → Prop} {w nx : Nat} {h : Nat → va_E} {C : Nat → Nat → Int} {A : Nat → Int → Int} {V : Nat → Value} (b : BX X l0 g mX6_growTree 3 0 0) {v : Nat} (hn : C 234 5 = (v : Int)) (hv : v ≤ 8) (h30 : ∀ j, 0 ≤ j → j < 8 → 0 ≤ A 235 j ∧ A 235 j < 2 ^ 8) : ∀ (n : Nat) (far : Int) (t : TrS), (far + n = 9) → (0 ≤ far) → (gInv v t) → WW X g mX6_growTree.2.2.1 Z 0 0 112 [some (.ref 234), none, none, none] [] (cp w (cT C (trF (A 235) v n far t)) (aT A (trF (A 235) v n far t)) V h, nx) → WW X g mX6_growTree.2.2.1 Z 0 0 35 [some (.ref 234), some (.int (iI (far))), none, none] [] (cp w (cT C t) (aT A t) V h, nx) := by
  intro n
  induction n with
  | zero =>
    intro far t h1 h2 hG kk
    refine w_iload_n b dX6_growTree_35 rfl ?_
    refine z_bipush b dX6_growTree_36 (by decide) ?_
    refine z_icmp_gt (tgt := 112) b dX6_growTree_38 (by decide) (by omega) (fun c38 => ?_) (fun c38 => ?_)
    · refine ww_forget 1 ?_
      exact kk
    · exfalso; omega
  | succ n ih =>
    intro far t h1 h2 hG kk
    refine w_iload_n b dX6_growTree_35 rfl ?_
    refine z_bipush b dX6_growTree_36 (by decide) ?_
    refine z_icmp_gt (tgt := 112) b dX6_growTree_38 (by decide) (by omega) (fun c38 => ?_) (fun c38 => ?_)
    · exfalso; omega
    · refine z_iconst b dX6_growTree_41 ?_
      refine w_istore_n b dX6_growTree_42 (tlt rfl) rfl ?_
      refine l_X6_growTree2 b hn hv h30 (by omega) v 0 t (by omega) (by omega) hG ?_
      refine z_iinc b dX6_growTree_106 rfl rfl rfl ?_
      refine w_goto (tgt := 35) b dX6_growTree_109 (by decide) ?_
      exact ih (far + 1) _ (by omega) (by omega) (gInv_A v 0 t (by omega) (by omega) hG) kk
set_option maxRecDepth 20000 in
theorem l_X6_growTree0 {X : Cx} {l0 : Launch} {g : Gw} {Z : State → Prop} {w nx : Nat} {h : Nat → va_E} {C : Nat → Nat → Int} {A : Nat → Int → Int} {V : Nat → Value} (b : BX X l0 g mX6_growTree 3 0 0) {v : Nat} (hn : C 234 5 = (v : Int)) (hv : v ≤ 8) : ∀ (n : Nat) (i : Int) (f : Int → Int), (i + n = v) → (0 ≤ i) → WW X g mX6_growTree.2.2.1 Z 0 0 33 [some (.ref 234), none, none, none] [] (cp w C (va_up A 236 (idA n i f)) V h, nx) → WW X g mX6_growTree.2.2.1 Z 0 0 12 [some (.ref 234), some (.int (iI (i))), none, none] [] (cp w C (va_up A 236 f) V h, nx) := by
  intro n
  induction n with
  | zero =>
    intro i f h1 h2 kk
    refine w_iload_n b dX6_growTree_12 rfl ?_
    refine w_aload_n b dX6_growTree_13 rfl rfl ?_
    refine q_get b dX6_growTree_14 lfX6_27 (tlt rfl) ct_234 rfl ?_
    refine z_icmp_ge (tgt := 33) b dX6_growTree_17 (by decide) (by omega) (fun c17 => ?_) (fun c17 => ?_)
    · refine ww_forget 1 ?_
      exact kk
    · exfalso; omega
  | succ n ih =>
    intro i f h1 h2 kk
    refine w_iload_n b dX6_growTree_12 rfl ?_
    refine w_aload_n b dX6_growTree_13 rfl rfl ?_
    refine q_get b dX6_growTree_14 lfX6_27 (tlt rfl) ct_234 rfl ?_
    refine z_icmp_ge (tgt := 33) b dX6_growTree_17 (by decide) (by omega) (fun c17 => ?_) (fun c17 => ?_)
    · exfalso; omega
    · refine w_aload_n b dX6_growTree_20 rfl rfl ?_
      refine q_get b dX6_growTree_21 lfX6_15 (tlt rfl) ct_234 rfl ?_
      refine w_iload_n b dX6_growTree_24 rfl ?_
      refine w_iload_n b dX6_growTree_25 rfl ?_
      refine q_iast b dX6_growTree_26 (tlt rfl) (fun _ => ct_236) (by omega) ?_
      refine ww_cast (σ' := (cp w C (va_up A 236 (fu f i i)) V h, nx)) rfl rfl (by rw [va_up_twice]; rfl) ?_
      refine z_iinc b dX6_growTree_27 rfl rfl rfl ?_
      refine w_goto (tgt := 12) b dX6_growTree_30 (by decide) ?_
      exact ih (i + 1) (fu f i i) (by omega) (by omega) kk
set_option maxRecDepth 20000 in
theorem k_X6_growTree {l0 : Launch} {g : Gw} {w nx : Nat} {h : Nat → va_E} {C : Nat → Nat → Int} {A : Nat → Int → Int} {V : Nat → Value} {v : Nat} (hn : C 234 5 = (v : Int)) (hv : v ≤ 8) (h30 : ∀ j, 0 ≤ j → j < 8 → 0 ≤ A 235 j ∧ A 235 j < 2 ^ 8) : MD l0 g 3 mX6_growTree (cp w C A V h, nx) [.ref 234] 0 0 (none) (cp w (cT C (trF (A 235) v 9 0 (idA v 0 (A 236), A 239, 0, 0))) (aT A (trF (A 235) v 9 0 (idA v 0 (A 236), A 239, 0, 0))) V h, nx) := by
  refine MD.of (by decide +kernel) (by simp [Value.category]) (tle rfl) (fun X b => ?_)
  change WW X g _ _ 0 0 0 [some (.ref 234), none, none, none] [] _
  refine w_aload_n b dX6_growTree_0 rfl rfl ?_
  refine z_iconst b dX6_growTree_1 ?_
  refine q_put b dX6_growTree_2 lfX6_40 gcX6 gtX6_6 (tlt rfl) (fun _ => ct_234) (tlt rfl) rfl ?_
  refine w_aload_n b dX6_growTree_5 rfl rfl ?_
  refine z_iconst b dX6_growTree_6 ?_
  refine q_put b dX6_growTree_7 lfX6_43 gcX6 gtX6_7 (tlt rfl) (fun _ => ct_234) (tlt rfl) rfl ?_
  refine z_iconst b dX6_growTree_10 ?_
  refine w_istore_n b dX6_growTree_11 (tlt rfl) rfl ?_
  refine ww_cast (σ' := (cp w (cT C (idA v 0 (A 236), A 239, 0, 0)) (va_up A 236 (A 236)) V h, nx)) rfl rfl (by rw [va_up_same, ← cT_0]; rfl) ?_
  refine l_X6_growTree0 (C := cT C (idA v 0 (A 236), A 239, 0, 0)) (v := v) b hn hv v 0 (A 236) (by omega) (by omega) ?_
  refine z_iconst b dX6_growTree_33 ?_
  refine w_istore_n b dX6_growTree_34 (tlt rfl) rfl ?_
  rw [aT_0 A (idA v 0 (A 236)) 0 0]
  refine l_X6_growTree1 b hn hv h30 9 0 _ (by omega) (by omega) (gInv_id _ _ _) ?_
  exact w_vret b dX6_growTree_112 rfl (by omega) (by omega) ⟨rfl, rfl⟩
set_option maxRecDepth 20000 in
theorem k_X6_add0 {l0 : Launch} {g : Gw} {w nx : Nat} {h : Nat → va_E} {C : Nat → Nat → Int} {A : Nat → Int → Int} {V : Nat → Value} {x : Int} (hn : C 234 5 = 8) : MD l0 g 4 mX6_add (cp w C A V h, nx) [.ref 234, .int (iI (x))] 0 0 (some (.int (iI (-2)))) (cp w C A V h, nx) := by
  refine MD.of (by decide +kernel) (by simp [Value.category]) (tle rfl) (fun X b => ?_)
  change WW X g _ _ 0 0 0 [some (.ref 234), some (.int (iI (x)))] [] _
  refine w_aload_n b dX6_add_0 rfl rfl ?_
  refine q_get b dX6_add_1 lfX6_27 (tlt rfl) ct_234 rfl ?_
  refine z_bipush b dX6_add_4 (by decide) ?_
  refine z_icmp_lt (tgt := 12) b dX6_add_6 (by decide) (by omega) (fun c6 => ?_) (fun c6 => ?_)
  · exfalso; omega
  · refine z_bipush b dX6_add_9 (by decide) ?_
    exact w_iret b dX6_add_11 rfl (by omega) (by omega) ⟨iv_eq (by first | rfl | omega | ((try simp only [b2]); ((repeat' split) <;> (first | rfl | omega)))), rfl⟩
set_option maxRecDepth 20000 in
theorem k_X6_add1 {l0 : Launch} {g : Gw} {w nx : Nat} {h : Nat → va_E} {C : Nat → Nat → Int} {A : Nat → Int → Int} {V : Nat → Value} {x : Int} {v : Nat} (hn : C 234 5 = (v : Int)) (hv : v < 8) (h30 : ∀ j, 0 ≤ j → j < 8 → 0 ≤ A 235 j ∧ A 235 j < 2 ^ 8) (hx : 0 ≤ x ∧ x ≤ 255) : MD l0 g 4 mX6_add (cp w C A V h, nx) [.ref 234, .int (iI (x))] 0 0 (some (.int (iI ((v : Int))))) (cp w (cT (va_up C 234 (va_up (C 234) 5 ((v : Int) + 1))) (trF (fu (A 235) (v : Int) x) (v + 1) 9 0 (idA (v + 1) 0 (A 236), A 239, 0, 0))) (aT (va_up A 235 (fu (A 235) (v : Int) x)) (trF (fu (A 235) (v : Int) x) (v + 1) 9 0 (idA (v + 1) 0 (A 236), A 239, 0, 0))) V h, nx) := by
  have h30v : ∀ j, 0 ≤ j → j < 8 → 0 ≤ (va_up A 235 (fu (A 235) (v : Int) x)) 235 j ∧ (va_up A 235 (fu (A 235) (v : Int) x)) 235 j < 2 ^ 8 := fun j g1 g2 => by
    rw [va_up_self]
    by_cases q : j = (v : Int)
    · rw [q, fu_s]; omega
    · rw [fu_n q]; exact h30 j g1 g2
  refine MD.of (by decide +kernel) (by simp [Value.category]) (tle rfl) (fun X b => ?_)
  change WW X g _ _ 0 0 0 [some (.ref 234), some (.int (iI (x)))] [] _
  refine w_aload_n b dX6_add_0 rfl rfl ?_
  refine q_get b dX6_add_1 lfX6_27 (tlt rfl) ct_234 rfl ?_
  refine y_top hn ?_
  refine z_bipush b dX6_add_4 (by decide) ?_
  refine z_icmp_lt (tgt := 12) b dX6_add_6 (by decide) (by omega) (fun c6 => ?_) (fun c6 => ?_)
  · refine w_aload_n b dX6_add_12 rfl rfl ?_
    refine q_get b dX6_add_13 lfX6_9 (tlt rfl) ct_234 rfl ?_
    refine w_aload_n b dX6_add_16 rfl rfl ?_
    refine q_get b dX6_add_17 lfX6_27 (tlt rfl) ct_234 rfl ?_
    refine y_top hn ?_
    refine w_iload_n b dX6_add_20 rfl ?_
    refine q_iast b dX6_add_21 (tlt rfl) (fun _ => ct_235) (by omega) ?_
    refine w_aload_n b dX6_add_22 rfl rfl ?_
    refine w_dup b dX6_add_23 rfl ?_
    refine q_get b dX6_add_24 lfX6_27 (tlt rfl) ct_234 rfl ?_
    refine y_top hn ?_
    refine z_iconst b dX6_add_27 ?_
    refine z_iadd b dX6_add_28 ?_
    refine q_put b dX6_add_29 lfX6_27 gcX6 gtX6_5 (tlt rfl) (fun _ => ct_234) (tlt rfl) rfl ?_
    refine w_aload_n b dX6_add_32 rfl rfl ?_
    refine c_V0v b dX6_add_33 lmX6_31 (cpS (tlt rfl) ct_234) (k_X6_growTree (C := (va_up C 234 (va_up (C 234) 5 ((v : Int) + 1)))) (A := (va_up A 235 (fu (A 235) (v : Int) x))) (v := v + 1) (by show (v : Int) + 1 = _; omega) (by omega) h30v) (tle rfl) (by omega) (by omega) (by omega) ?_
    refine w_aload_n b dX6_add_36 rfl rfl ?_
    refine q_get (v := .int (iI ((v : Int) + 1))) b dX6_add_37 lfX6_27 (tlt rfl) ct_234 rfl ?_
    refine z_iconst b dX6_add_40 ?_
    refine z_isub b dX6_add_41 ?_
    exact w_iret b dX6_add_42 rfl (by omega) (by omega) ⟨iv_eq (by omega), rfl⟩
  · exfalso; omega
set_option maxRecDepth 20000 in
theorem k_X8_village0 {l0 : Launch} {g : Gw} {w nx : Nat} {h : Nat → va_E} {C : Nat → Nat → Int} {A : Nat → Int → Int} {V : Nat → Value} {x : Int} (hx : inR x) (hb : ¬ (0 ≤ x ∧ x ≤ 255) ∨ C 234 5 = 8) : MD l0 g 5 mX8_village (cp w C A V h, nx) [.ref 0, .int (iI (x))] 0 0 (some (.int (iI (if 0 ≤ x ∧ x ≤ 255 then -2 else -1)))) (cp w C A V h, nx) := by
  refine MD.of (by decide +kernel) (by simp [Value.category]) (tle rfl) (fun X b => ?_)
  change WW X g _ _ 0 0 0 [some (.ref 0), some (.int (iI (x)))] [] _
  refine w_iload_n b dX8_village_0 rfl ?_
  refine z_iconst b dX8_village_1 ?_
  refine z_sipush b dX8_village_2 (by decide) ?_
  refine c_S3 b dX8_village_5 lmX8_74 (k_X8_isWithin (by omega) (by omega) (by omega)) (tle rfl) (by omega) (by omega) (by omega) ?_
  refine z_ifb_eq (tgt := 22) b dX8_village_8 (by decide) (fun c8 => ?_) (fun c8 => ?_)
  · refine z_iconst b dX8_village_22 ?_
    exact w_iret b dX8_village_23 rfl (by omega) (by omega) ⟨iv_eq (by first | rfl | omega | ((try simp only [b2]); ((repeat' split) <;> (first | rfl | omega)))), rfl⟩
  · refine w_aload_n b dX8_village_11 rfl rfl ?_
    refine q_get b dX8_village_12 lfX8_40 (tlt rfl) ct_0 rfl ?_
    refine w_iload_n b dX8_village_15 rfl ?_
    refine c_V1 b dX8_village_16 lmX8_217 (cpS (tlt rfl) ct_234) (k_X6_add0 (by omega)) (tle rfl) (by omega) (by omega) (by omega) ?_
    refine w_goto (tgt := 23) b dX8_village_19 (by decide) ?_
    exact w_iret b dX8_village_23 rfl (by omega) (by omega) ⟨iv_eq (by first | rfl | omega | ((try simp only [b2]); ((repeat' split) <;> (first | rfl | omega)))), rfl⟩
set_option maxRecDepth 20000 in
theorem k_X8_village1 {l0 : Launch} {g : Gw} {w nx : Nat} {h : Nat → va_E} {C : Nat → Nat → Int} {A : Nat → Int → Int} {V : Nat → Value} {x : Int} {v : Nat} (hn : C 234 5 = (v : Int)) (hv : v < 8) (h30 : ∀ j, 0 ≤ j → j < 8 → 0 ≤ A 235 j ∧ A 235 j < 2 ^ 8) (hx : 0 ≤ x ∧ x ≤ 255) : MD l0 g 5 mX8_village (cp w C A V h, nx) [.ref 0, .int (iI (x))] 0 0 (some (.int (iI ((v : Int))))) (cp w (cT (va_up C 234 (va_up (C 234) 5 ((v : Int) + 1))) (trF (fu (A 235) (v : Int) x) (v + 1) 9 0 (idA (v + 1) 0 (A 236), A 239, 0, 0))) (aT (va_up A 235 (fu (A 235) (v : Int) x)) (trF (fu (A 235) (v : Int) x) (v + 1) 9 0 (idA (v + 1) 0 (A 236), A 239, 0, 0))) V h, nx) := by
  refine MD.of (by decide +kernel) (by simp [Value.category]) (tle rfl) (fun X b => ?_)
  change WW X g _ _ 0 0 0 [some (.ref 0), some (.int (iI (x)))] [] _
  refine w_iload_n b dX8_village_0 rfl ?_
  refine z_iconst b dX8_village_1 ?_
  refine z_sipush b dX8_village_2 (by decide) ?_
  refine c_S3 b dX8_village_5 lmX8_74 (k_X8_isWithin (by omega) (by omega) (by omega)) (tle rfl) (by omega) (by omega) (by omega) ?_
  refine z_ifb_eq (tgt := 22) b dX8_village_8 (by decide) (fun c8 => ?_) (fun c8 => ?_)
  · exfalso; omega
  · refine w_aload_n b dX8_village_11 rfl rfl ?_
    refine q_get b dX8_village_12 lfX8_40 (tlt rfl) ct_0 rfl ?_
    refine w_iload_n b dX8_village_15 rfl ?_
    refine c_V1 b dX8_village_16 lmX8_217 (cpS (tlt rfl) ct_234) (k_X6_add1 hn hv h30 hx) (tle rfl) (by omega) (by omega) (by omega) ?_
    refine w_goto (tgt := 23) b dX8_village_19 (by decide) ?_
    exact w_iret b dX8_village_23 rfl (by omega) (by omega) ⟨iv_eq (by first | rfl | omega | ((try simp only [b2]); ((repeat' split) <;> (first | rfl | omega)))), rfl⟩
set_option maxRecDepth 20000 in
theorem k_X8_tree {l0 : Launch} {g : Gw} {w nx : Nat} {h : Nat → va_E} {C : Nat → Nat → Int} {A : Nat → Int → Int} {V : Nat → Value}  (hn : 0 ≤ C 234 5 ∧ C 234 5 ≤ 8) : MD l0 g 0 mX8_tree (cp w C A V h, nx) [.ref 0] 0 0 (some (.int (iI (if C 234 5 = 0 then -3 else C 234 7)))) (cp w C A V h, nx) := by
  refine MD.of (by decide +kernel) (by simp [Value.category]) (tle rfl) (fun X b => ?_)
  change WW X g _ _ 0 0 0 [some (.ref 0)] [] _
  refine w_aload_n b dX8_tree_0 rfl rfl ?_
  refine q_get b dX8_tree_1 lfX8_40 (tlt rfl) ct_0 rfl ?_
  refine q_get b dX8_tree_4 lfX8_220 (tlt rfl) ct_234 rfl ?_
  refine z_if_ne (tgt := 15) b dX8_tree_7 (by decide) (by omega) (fun c7 => ?_) (fun c7 => ?_)
  · refine w_aload_n b dX8_tree_15 rfl rfl ?_
    refine q_get b dX8_tree_16 lfX8_40 (tlt rfl) ct_0 rfl ?_
    refine q_get b dX8_tree_19 lfX8_223 (tlt rfl) ct_234 rfl ?_
    exact w_iret b dX8_tree_22 rfl (by omega) (by omega) ⟨iv_eq (by first | rfl | omega | ((try simp only [b2]); ((repeat' split) <;> (first | rfl | omega)))), rfl⟩
  · refine z_bipush b dX8_tree_10 (by decide) ?_
    refine w_goto (tgt := 22) b dX8_tree_12 (by decide) ?_
    exact w_iret b dX8_tree_22 rfl (by omega) (by omega) ⟨iv_eq (by first | rfl | omega | ((try simp only [b2]); ((repeat' split) <;> (first | rfl | omega)))), rfl⟩
set_option maxRecDepth 20000 in
theorem k_X8_link {l0 : Launch} {g : Gw} {w nx : Nat} {h : Nat → va_E} {C : Nat → Nat → Int} {A : Nat → Int → Int} {V : Nat → Value} {i : Int} (hi : inR i) (hn : 0 ≤ C 234 6 ∧ C 234 6 ≤ 7) : MD l0 g 0 mX8_link (cp w C A V h, nx) [.ref 0, .int (iI (i))] 0 0 (some (.int (iI (if i < 0 then -1 else if i < C 234 6 then A 239 i else -3)))) (cp w C A V h, nx) := by
  refine MD.of (by decide +kernel) (by simp [Value.category]) (tle rfl) (fun X b => ?_)
  change WW X g _ _ 0 0 0 [some (.ref 0), some (.int (iI (i)))] [] _
  refine w_iload_n b dX8_link_0 rfl ?_
  refine z_if_ge (tgt := 6) b dX8_link_1 (by decide) (by omega) (fun c1 => ?_) (fun c1 => ?_)
  · refine w_iload_n b dX8_link_6 rfl ?_
    refine w_aload_n b dX8_link_7 rfl rfl ?_
    refine q_get b dX8_link_8 lfX8_40 (tlt rfl) ct_0 rfl ?_
    refine q_get b dX8_link_11 lfX8_226 (tlt rfl) ct_234 rfl ?_
    refine z_icmp_ge (tgt := 29) b dX8_link_14 (by decide) (by omega) (fun c14 => ?_) (fun c14 => ?_)
    · refine z_bipush b dX8_link_29 (by decide) ?_
      exact w_iret b dX8_link_31 rfl (by omega) (by omega) ⟨iv_eq (by first | rfl | omega | ((try simp only [b2]); ((repeat' split) <;> (first | rfl | omega)))), rfl⟩
    · refine w_aload_n b dX8_link_17 rfl rfl ?_
      refine q_get b dX8_link_18 lfX8_40 (tlt rfl) ct_0 rfl ?_
      refine q_get b dX8_link_21 lfX8_229 (tlt rfl) ct_234 rfl ?_
      refine w_iload_n b dX8_link_24 rfl ?_
      refine q_iald b dX8_link_25 (tlt rfl) ct_239 (by omega) ?_
      refine w_goto (tgt := 31) b dX8_link_26 (by decide) ?_
      exact w_iret b dX8_link_31 rfl (by omega) (by omega) ⟨iv_eq (by first | rfl | omega | ((try simp only [b2]); ((repeat' split) <;> (first | rfl | omega)))), rfl⟩
  · refine z_iconst b dX8_link_4 ?_
    exact w_iret b dX8_link_5 rfl (by omega) (by omega) ⟨iv_eq (by first | rfl | omega | ((try simp only [b2]); ((repeat' split) <;> (first | rfl | omega)))), rfl⟩
/-- trees that tell the same: groups of the villages, links so far, how many, the sum -/
def trE (v : Nat) (t u : TrS) : Prop := (∀ i : Int, 0 ≤ i → i < v → t.1 i = u.1 i) ∧ (∀ i : Int, i < t.2.2.1 → 0 ≤ i → t.2.1 i = u.2.1 i) ∧ t.2.2.1 = u.2.2.1 ∧ t.2.2.2 = u.2.2.2
theorem trE_J {v : Nat} {t u : TrS} {far a b : Int} (h : trE v t u) (ha : 0 ≤ a ∧ a < v) (hb : 0 ≤ b ∧ b < v) : trE v (trJ v far a b t) (trJ v far a b u) := by
  obtain ⟨h1, h2, h3, h4⟩ := h
  refine ⟨fun i g1 g2 => ?_, fun i g1 g2 => ?_, by show t.2.2.1 + 1 = u.2.2.1 + 1; omega, by show t.2.2.2 + far = u.2.2.2 + far; omega⟩
  · show joinA (t.1 b) (t.1 a) v 0 t.1 i = joinA (u.1 b) (u.1 a) v 0 u.1 i
    rw [joinA_at, joinA_at, h1 a ha.1 ha.2, h1 b hb.1 hb.2, h1 i g1 g2]
  · have g1' : i < t.2.2.1 + 1 := g1
    show fu t.2.1 t.2.2.1 (10 * a + b) i = fu u.2.1 u.2.2.1 (10 * a + b) i
    by_cases e : i = t.2.2.1
    · rw [e, fu_s, h3, fu_s]
    · rw [fu_n e, fu_n (by omega)]
      exact h2 i (by omega) g2
theorem trE_B {W : Int → Int} {v : Nat} {far a : Int} (ha : 0 ≤ a ∧ a < v) : ∀ (n : Nat) (b : Int) (t u : TrS), 0 ≤ b → b + n ≤ v → trE v t u → trE v (trB W v far a n b t) (trB W v far a n b u) := by
  intro n
  induction n with
  | zero => intro b t u _ _ h; exact h
  | succ n ih =>
    intro b t u h1 h2 h
    refine ih (b + 1) _ _ (by omega) (by omega) ?_
    have ea := h.1 a ha.1 ha.2
    have eb := h.1 b h1 (by omega)
    by_cases hc : apF (W a) (W b) = far ∧ ¬ t.1 a = t.1 b
    · rw [if_pos hc, if_pos ⟨hc.1, by rw [← ea, ← eb]; exact hc.2⟩]
      exact trE_J h ha ⟨h1, by omega⟩
    · rw [if_neg hc, if_neg (fun z => hc ⟨z.1, by rw [ea, eb]; exact z.2⟩)]
      exact h
theorem trE_A {W : Int → Int} {v : Nat} {far : Int} : ∀ (n : Nat) (a : Int) (t u : TrS), 0 ≤ a → a + n ≤ v → trE v t u → trE v (trA W v far n a t) (trA W v far n a u) := by
  intro n
  induction n with
  | zero => intro a t u _ _ h; exact h
  | succ n ih =>
    intro a t u h1 h2 h
    exact ih (a + 1) _ _ (by omega) (by omega) (trE_B ⟨h1, by omega⟩ _ (a + 1) t u (by omega) (by omega) h)
theorem trE_F {W : Int → Int} {v : Nat} : ∀ (n : Nat) (far : Int) (t u : TrS), trE v t u → trE v (trF W v n far t) (trF W v n far u) := by
  intro n
  induction n with
  | zero => intro far t u h; exact h
  | succ n ih =>
    intro far t u h
    exact ih (far + 1) _ _ (trE_A v 0 t u (by omega) (by omega) h)
theorem trE_id (v : Nat) (f f' l l' : Int → Int) : trE v (idA v 0 f, l, 0, 0) (idA v 0 f', l', 0, 0) := by
  refine ⟨fun i g1 g2 => ?_, fun i g1 g2 => ?_, rfl, rfl⟩
  · show idA v 0 f i = idA v 0 f' i
    rw [idA_at, idA_at, if_pos (by omega), if_pos (by omega)]
  · have : i < 0 := g1
    omega
/-- the tree of the villages W, n of them -/
def treeW (W : Int → Int) (n : Int) : TrS := trF W n.toNat 9 0 (idA n.toNat 0 (fun _ => 0), fun _ => 0, 0, 0)
theorem treeT_W (I : Nat → Int) (F : Nat → Int → Int) : trE (I 27).toNat (treeT I F) (treeW (F 30) (I 27)) := trE_F 9 0 _ _ (trE_id _ _ _ _ _)
