/-! THE CLASS: chant, step (by p69.py) -/
set_option maxRecDepth 20000 in
theorem k_X2_init {l0 : Launch} {g : Gw} {σ : Sg} {q : Nat} (hq : σ.1 q = .inr (2, [.null])) (hqn : q ≠ σ.2) : MD l0 g 4 mX2_init σ [.ref q] 1 3 (none) (va_up (va_up σ.1 σ.2 (.inr (10, [.int (iI 0), .float 0, .int (iI 0)]))) q (.inr (2, [.ref σ.2])), σ.2 + 1) := by
  refine MD.of (by decide +kernel) (by simp [Value.category]) (tle rfl) (fun X b => ?_)
  change WW X g _ _ 0 0 0 [some (.ref q)] [] _
  refine w_aload_n b dX2_init_0 rfl rfl ?_
  refine w_objInit b dX2_init_1 loX2_1 lo_inst lo_code (tle rfl) (by omega) ?_
  refine w_aload_n b dX2_init_4 rfl rfl ?_
  refine w_new b dX2_init_5 lnX2_7 (by omega) (by simp <;> omega) ?_
  change WW X g _ _ (0 + 1) (0 + 3) _ _ _ _
  refine w_dup b dX2_init_8 rfl ?_
  refine c_I0 b dX2_init_9 lmX2_9 (k_listInit (va_up_self _ _ _)) (tle rfl) (by omega) (by omega) (by omega) ?_
  refine w_putf b dX2_init_12 lfX2_10 gcX2 gtX2_0 (fun _ => rfl) (by show va_up (va_up σ.1 σ.2 _) σ.2 _ q = _; rw [va_up_ne _ _ hqn, va_up_ne _ _ hqn]; exact hq) (tlt rfl) rfl rfl ?_
  exact w_vret b dX2_init_15 rfl (by omega) (by omega) ⟨rfl, by rw [va_up_twice]; rfl⟩
/-- a chant at nx, its list behind it -/
def hC (h : Nat → va_E) (nx : Nat) : Nat → va_E := va_up (va_up h nx (.inr (2, [.ref (nx + 1)]))) (nx + 1) (.inr (10, [.int (iI 0), .float 0, .int (iI 0)]))
theorem hC_new (h : Nat → va_E) (nx : Nat) : va_up (va_up (va_up h nx (.inr (2, [.null]))) (nx + 1) (.inr (10, [.int (iI 0), .float 0, .int (iI 0)]))) nx (.inr (2, [.ref (nx + 1)])) = hC h nx := by
  funext j
  by_cases h1 : j = nx
  · subst h1; unfold hC; rw [va_up_self, va_up_ne _ _ (by omega), va_up_self]
  · unfold hC
    rw [va_up_ne _ _ h1]
    by_cases h2 : j = nx + 1
    · subst h2; rw [va_up_self, va_up_self]
    · rw [va_up_ne _ _ h2, va_up_ne _ _ h1, va_up_ne _ _ h2, va_up_ne _ _ h1]
theorem hC_lt {h : Nat → va_E} {nx q : Nat} (hq : q < nx) : hC h nx q = h q := by unfold hC; rw [va_up_ne _ _ (by omega), va_up_ne _ _ (by omega)]
theorem hC_0 (h : Nat → va_E) (nx : Nat) : hC h nx nx = .inr (2, [.ref (nx + 1)]) := by unfold hC; rw [va_up_ne _ _ (by omega), va_up_self]
theorem hC_1 (h : Nat → va_E) (nx : Nat) : hC h nx (nx + 1) = (.inr (10, [.int (iI 0), .float 0, .int (iI 0)])) := by unfold hC; rw [va_up_self]
/-- the list of chants: how often changed, how many -/
def cL (C : Nat → Nat → Int) (m n : Int) : Nat → Nat → Int := va_up C 231 (va_up (va_up (C 231) 0 m) 2 n)
theorem cL_up {w : Nat} {C : Nat → Nat → Int} {A : Nat → Int → Int} {V : Nat → Value} {h : Nat → va_E} (m n : Int) (a : Nat) (e : va_E) (ha : 291 ≤ a) : va_up (va_up (cp w C A V h) a e) 231 (.inr (10, [.int (iI m), .ref a, .int (iI n)])) = cp w (cL C m n) A (va_up V 231 (.ref a)) (va_up h a e) := by
  rw [cp_uph (by omega)]
  have h1 := cp_up (w := w) (C := C) (A := A) (V := V) (h := va_up h a e) (q := 231) (by omega) (va_up (va_up (C 231) 0 m) 2 n) (A 231) (.ref a)
  rw [va_up_same] at h1
  exact h1
/-- what a list's array is after an add: the old one, or a new one at nx1 -/
def LA (own : Nat → Nat) (tag nx0 nx1 : Nat) (n : Int) (el : Nat → Nat) (k a len nx' : Nat) (f' : Nat → Option Nat) : Prop := ((291 ≤ a ∧ a < nx0 ∧ own a = tag ∧ nx' = nx1) ∨ (a = nx1 ∧ nx' = nx1 + 1)) ∧ n + 1 ≤ (len : Int) ∧ (len = 10 ∨ len = 15) ∧ (∀ i : Nat, (i : Int) < n → f' i = some (el i)) ∧ f' n.toNat = some k
set_option maxRecDepth 20000 in
theorem k_X0_addChant0 {l0 : Launch} {g : Gw} {w nx : Nat} {h : Nat → va_E} {C : Nat → Nat → Int} {A : Nat → Int → Int} {V : Nat → Value} {I : Nat → Int} {F : Nat → Int → Int} {ca : Nat → Nat} {sa : Nat → Nat → Nat} {own : Nat → Nat} (hD : RDy h nx C V I F ca sa own) (hf : I 2 = 12) : MD l0 g 8 mX0_addChant (cp w C A V h, nx) [.ref 230] 3 19 (some (.int (iI (-2)))) (cp w C A V h, nx) := by
  refine MD.of (by decide +kernel) (by simp [Value.category]) (tle rfl) (fun X b => ?_)
  change WW X g _ _ 0 0 0 [some (.ref 230)] [] _
  refine w_aload_n b dX0_addChant_0 rfl rfl ?_
  refine q_get b dX0_addChant_1 lfX0_12 (tlt rfl) ct_230 rfl ?_
  refine c_V0 b dX0_addChant_4 lmX0_34 (cpS (tlt rfl) ct_231) (k_sizeC hD) (tle rfl) (by omega) (by omega) (by omega) ?_
  refine z_bipush b dX0_addChant_7 (by decide) ?_
  refine z_icmp_lt (tgt := 15) b dX0_addChant_9 (by decide) (by omega) (fun c9 => ?_) (fun c9 => ?_)
  · exfalso; omega
  · refine z_bipush b dX0_addChant_12 (by decide) ?_
    exact w_iret b dX0_addChant_14 rfl (by omega) (by omega) ⟨iv_eq (by first | rfl | omega | ((try simp only [b2]); ((repeat' split) <;> (first | rfl | omega)))), rfl⟩
set_option maxRecDepth 20000 in
theorem k_X0_addChant1 {l0 : Launch} {g : Gw} {w nx : Nat} {h : Nat → va_E} {C : Nat → Nat → Int} {A : Nat → Int → Int} {V : Nat → Value} {I : Nat → Int} {F : Nat → Int → Int} {ca : Nat → Nat} {sa : Nat → Nat → Nat} {own : Nat → Nat} (hD : RDy h nx C V I F ca sa own) (hx : 291 ≤ nx) (hf : I 2 < 12) : MM l0 g 8 mX0_addChant (cp w C A V h, nx) [.ref 230] 3 19 (fun r σ' => r = some (.int (iI (I 2))) ∧ ∃ (m1 : Int) (a len nx1 : Nat) (f1 : Nat → Option Nat), LA own 60 nx (nx + 2) (I 2) ca nx a len nx1 f1 ∧ σ' = (cp w (cL C m1 (I 2 + 1)) A (va_up V 231 (.ref a)) (va_up (hC h nx) a (.inl (4, len, .inr (.inr (.inr (.inr (f1))))))), nx1)) := by
  have hn1 := hD.n1
  have hn2 := hD.n2
  refine MM.of (by decide +kernel) (by simp [Value.category]) (tle rfl) (fun X b => ?_)
  change WW X g _ _ 0 0 0 [some (.ref 230)] [] _
  have fin : ∀ (m1 : Int) (a len nx1 : Nat) (f1 : Nat → Option Nat) (kc ks : Nat), kc ≤ 3 → ks ≤ 19 → LA own 60 nx (nx + 2) (I 2) ca nx a len nx1 f1 → WW X g mX0_addChant.2.2.1 (ZQ X g (fun r σ' => r = some (.int (iI (I 2))) ∧ ∃ (m1 : Int) (a len nx1 : Nat) (f1 : Nat → Option Nat), LA own 60 nx (nx + 2) (I 2) ca nx a len nx1 f1 ∧ σ' = (cp w (cL C m1 (I 2 + 1)) A (va_up V 231 (.ref a)) (va_up (hC h nx) a (.inl (4, len, .inr (.inr (.inr (.inr (f1))))))), nx1)) 3 19) kc ks 29 [some (.ref 230)] [.int (iI 1)] (cp w (cL C m1 (I 2 + 1)) A (va_up V 231 (.ref a)) (va_up (hC h nx) a (.inl (4, len, .inr (.inr (.inr (.inr (f1))))))), nx1) := by
    intro m1 a len nx1 f1 kc ks hkc hks hA
    refine w_pop b dX0_addChant_29 rfl ?_
    refine w_aload_n b dX0_addChant_30 rfl rfl ?_
    refine q_get b dX0_addChant_31 lfX0_12 (tlt rfl) ct_230 rfl ?_
    refine c_V0 b dX0_addChant_34 lmX0_34 (cpS (tlt rfl) ct_231) (k_Jx4a65c_size_8abf5 (m := .int (iI m1)) (v := .ref a) (n := I 2 + 1) (cpS (tlt rfl) ct_231)) (tle rfl) (by omega) (by omega) (by omega) ?_
    refine z_iconst b dX0_addChant_37 ?_
    refine z_isub b dX0_addChant_38 ?_
    exact w_iret b dX0_addChant_39 rfl (by omega) (by omega) ⟨iv_eq (by omega), m1, a, len, nx1, f1, hA, rfl⟩
  refine w_aload_n b dX0_addChant_0 rfl rfl ?_
  refine q_get b dX0_addChant_1 lfX0_12 (tlt rfl) ct_230 rfl ?_
  refine c_V0 b dX0_addChant_4 lmX0_34 (cpS (tlt rfl) ct_231) (k_sizeC hD) (tle rfl) (by omega) (by omega) (by omega) ?_
  refine z_bipush b dX0_addChant_7 (by decide) ?_
  refine z_icmp_lt (tgt := 15) b dX0_addChant_9 (by decide) (by omega) (fun c9 => ?_) (fun c9 => ?_)
  · refine w_aload_n b dX0_addChant_15 rfl rfl ?_
    refine q_get b dX0_addChant_16 lfX0_12 (tlt rfl) ct_230 rfl ?_
    refine w_new b dX0_addChant_19 lnX0_46 (by omega) (by simp <;> omega) ?_
    change WW X g _ _ (0 + 1) (0 + 1) _ _ _ _
    refine ww_cast (σ' := (cp w C A V (va_up h nx (.inr (2, [.null]))), nx + 1)) rfl rfl (by rw [cp_uph (by omega)]) ?_
    refine w_dup b dX0_addChant_22 rfl ?_
    refine c_IN0 b dX0_addChant_23 lmX0_53 (gw_at (i := 327) (by decide +kernel) rfl) rfl rfl (k_X2_init (σ := (cp w C A V (va_up h nx (.inr (2, [.null]))), nx + 1)) (q := nx) (by show cp w C A V (va_up h nx _) nx = _; rw [cp_ge (by omega), va_up_self]) (by show nx ≠ nx + 1; omega)) (tle rfl) (by omega) (by omega) (by omega) ?_
    refine ww_cast (σ' := (cp w C A V (hC h nx), nx + 2)) rfl rfl (by show (va_up (va_up (cp w C A V (va_up h nx _)) (nx + 1) _) nx _, nx + 1 + 1) = _; rw [cp_uph (by omega), cp_uph (by omega), hC_new]) ?_
    have h231 : cp w C A V (hC h nx) 231 = .inr (10, [.int (iI (C 231 0)), V 231, .int (iI (I 2))]) := by
      rw [cp_lt (by omega), ct_231, ← hn1]
    have hnx : cp w C A V (hC h nx) nx = .inr (2, [.ref (nx + 1)]) := by
      rw [cp_ge (by omega), hC_0]
    rcases hD.lc with ⟨e1, e2⟩ | ⟨a, len, f, e1, e2, e3, e4, e5, e6, e7, e8, e9⟩
    · rw [e2, e1] at h231
      refine c_V1 b dX0_addChant_26 lmX0_54 h231 (k_addA h231 (by omega) (by show 231 ≠ nx + 2; omega) (by show nx ≠ nx + 2; omega) hnx rfl (by decide)) (tle rfl) (by omega) (by omega) (by omega) ?_
      refine ww_cast (L' := [some (.ref 230)]) (σ' := (cp w (cL C (C 231 0 + 1) (0 + 1)) A (va_up V 231 (.ref (nx + 2))) (va_up (hC h nx) (nx + 2) (.inl (4, 10, .inr (.inr (.inr (.inr (va_up (fun _ => none) 0 (some nx)))))))), nx + 3)) rfl rfl (Prod.ext (cL_up _ _ _ _ (by show 291 ≤ nx + 2; omega)) rfl) ?_
      have e7 := fin (C 231 0 + 1) (nx + 2) 10 (nx + 3) (va_up (fun _ => none) 0 (some nx)) (0 + 1 + 1 + 1) (0 + 1 + 3 + 10) (by omega) (by omega) ⟨Or.inr ⟨rfl, rfl⟩, by omega, Or.inl rfl, fun i hi => by omega, by rw [e1]; rfl⟩
      rw [e1] at e7 ⊢
      exact e7
    · rw [e1] at h231
      have ha : cp w C A V (hC h nx) a = (.inl (4, len, .inr (.inr (.inr (.inr (f)))))) := by
        rw [cp_ge (by omega), hC_lt e3, e5]
      by_cases hfull : I 2 < (len : Int)
      · refine c_V1 b dX0_addChant_26 lmX0_54 h231 (k_addB h231 (by omega) (by omega) ha ⟨e6, hfull, by omega⟩ hnx rfl (by decide)) (tle rfl) (by omega) (by omega) (by omega) ?_
        refine ww_cast (L' := [some (.ref 230)]) (σ' := (cp w (cL C (C 231 0 + 1) (I 2 + 1)) A (va_up V 231 (.ref a)) (va_up (hC h nx) a (.inl (4, len, .inr (.inr (.inr (.inr (va_up f (I 2).toNat (some nx)))))))), nx + 2)) rfl rfl (Prod.ext (cL_up _ _ _ _ e2) rfl) ?_
        refine fin (C 231 0 + 1) a len (nx + 2) (va_up f (I 2).toNat (some nx)) _ _ (by omega) (by omega) ⟨Or.inl ⟨e2, e3, e4, rfl⟩, by omega, e8, fun i hi => ?_, va_up_self _ _ _⟩
        rw [va_up_ne _ _ (by omega)]; exact e9 i hi
      · have e10 : I 2 = 10 := by omega
        have e11 : len = 10 := by omega
        subst e11
        rw [e10] at h231
        refine c_V1 b dX0_addChant_26 lmX0_54 h231 (k_addC (ci := 2) h231 (by omega) (by omega) (by show 231 ≠ nx + 2; omega) (by show nx ≠ nx + 2; omega) rfl (by decide) ha (by show a ≠ nx + 2; omega) (fun i hi y hy => ?_) hnx rfl (by decide)) (tle rfl) (by omega) (by omega) (by omega) ?_
        · rw [e9 i (by omega)] at hy
          cases hy
          obtain ⟨q1, q2, q3, q4, q5⟩ := hD.oc i (by omega)
          exact ⟨_, by show cp w C A V (hC h nx) (ca i) = _; rw [cp_ge (by omega), hC_lt (by omega)]; exact q5, by show ca i ≠ nx + 2; omega, by omega⟩
        refine ww_cast (L' := [some (.ref 230)]) (σ' := (cp w (cL C (C 231 0 + 1) (10 + 1)) A (va_up V 231 (.ref (nx + 2))) (va_up (hC h nx) (nx + 2) (.inl (4, 15, .inr (.inr (.inr (.inr (va_up (va_cpy f (fun _ => none) 0 0 10) 10 (some nx)))))))), nx + 3)) rfl rfl (Prod.ext (cL_up _ _ _ _ (by show 291 ≤ nx + 2; omega)) rfl) ?_
        have e12 := fin (C 231 0 + 1) (nx + 2) 15 (nx + 3) (va_up (va_cpy f (fun _ => none) 0 0 10) 10 (some nx)) (0 + 1 + 1 + 1) (0 + 1 + 3 + 15) (by omega) (by omega) ⟨Or.inr ⟨rfl, rfl⟩, by omega, Or.inr rfl, fun i hi => ?_, by rw [e10]; exact va_up_self _ _ _⟩
        · rw [e10] at e12 ⊢
          exact e12
        · rw [va_up_ne _ _ (by omega)]
          unfold va_cpy
          rw [if_pos (by omega), show 0 + (i - 0) = i by omega]
          exact e9 i hi
  · exfalso; omega
theorem LSl.mono {h h' : Nat → va_E} {nx nx' : Nat} {own own' : Nat → Nat} {tag : Nat} {v : Value} {n : Int} {el el' : Nat → Nat} (hL : LSl h nx own tag v n el) (hn : nx ≤ nx') (hh : ∀ q, 291 ≤ q → q < nx → own q = tag → own' q = tag ∧ h' q = h q) (he : ∀ i : Nat, (i : Int) < n → el' i = el i) : LSl h' nx' own' tag v n el' := by
  rcases hL with h1 | ⟨a, len, f, e1, e2, e3, e4, e5, e6, e7, e8, e9⟩
  · exact Or.inl h1
  · obtain ⟨g1, g2⟩ := hh a e2 e3 e4
    exact Or.inr ⟨a, len, f, e1, e2, by omega, g1, by rw [g2]; exact e5, e6, e7, e8, fun i hi => by rw [he i hi]; exact e9 i hi⟩
/-- what else lies on the heap is as it was: the reference's cells, the steps on shelves -/
def frD (h : Nat → va_E) (own : Nat → Nat) (nx : Nat) (h' : Nat → va_E) (own' : Nat → Nat) (nx' : Nat) : Prop := nx ≤ nx' ∧ (∀ q, q < 291 → h' q = h q) ∧ ∀ q, q < nx → own q = 300 → own' q = 300 ∧ h' q = h q
def caN (ca : Nat → Nat) (c0 nx : Nat) : Nat → Nat := fun c => if c = c0 then nx else ca c
def owC (own : Nat → Nat) (nx c0 : Nat) : Nat → Nat := fun q => if q < nx then own q else if q = nx then 20 + c0 else if q = nx + 1 then 40 + c0 else 60
theorem RDy.addC {I : Nat → Int} {F : Nat → Int → Int} {ca : Nat → Nat} {sa : Nat → Nat → Nat} {own : Nat → Nat} {C : Nat → Nat → Int} {V : Nat → Value} {h : Nat → va_E} {nx : Nat} (hD : RDy h nx C V I F ca sa own) (hx : 291 ≤ nx) (hf : I 2 < 12) {m1 : Int} {a len nx1 : Nat} {f1 : Nat → Option Nat} (hA : LA own 60 nx (nx + 2) (I 2) ca nx a len nx1 f1) :
    RDy (va_up (hC h nx) a (.inl (4, len, .inr (.inr (.inr (.inr f1)))))) nx1 (cL C m1 (I 2 + 1)) (va_up V 231 (.ref a)) (va_up I 2 (I 2 + 1)) (va_up F 3 (fu (F 3) (I 2) 0)) (caN ca (I 2).toNat nx) sa (owC own nx (I 2).toNat) ∧ frD h own nx (va_up (hC h nx) a (.inl (4, len, .inr (.inr (.inr (.inr f1)))))) (owC own nx (I 2).toNat) nx1 := by
  obtain ⟨hA1, hA2, hA3, hA4, hA5⟩ := hA
  have hn2 := hD.n2
  have hax : 291 ≤ a ∧ a < nx1 ∧ a ≠ nx ∧ a ≠ nx + 1 ∧ nx + 2 ≤ nx1 := by rcases hA1 with z | z <;> omega
  have hold : ∀ q, q < nx → own q ≠ 60 → va_up (hC h nx) a (.inl (4, len, .inr (.inr (.inr (.inr f1))))) q = h q := by
    intro q h1 h2
    rw [va_up_ne _ _ (by intro z; subst z; rcases hA1 with z | z <;> omega), hC_lt h1]
  have how : ∀ q, q < nx → owC own nx (I 2).toNat q = own q := fun q hq => if_pos hq
  have e3 : ∀ c : Nat, (c : Int) < I 2 → va_up F 3 (fu (F 3) (I 2) 0) 3 (c : Int) = F 3 (c : Int) := fun c hc => by rw [va_up_self, fu_n (by omega)]
  refine ⟨⟨?_, ?_, ?_, ?_, ?_, ?_, ?_, ?_⟩, ?_⟩
  · show cL C m1 (I 2 + 1) 231 2 = va_up I 2 (I 2 + 1) 2
    rw [va_up_self]; simp [cL, va_up]
  · rw [va_up_self]; omega
  · intro c h1 h2
    rw [va_up_self] at h2
    by_cases hc : c = I 2
    · subst hc
      refine ⟨by rw [va_up_self, fu_s]; omega, fun s g1 g2 => ?_⟩
      rw [va_up_self, fu_s] at g2
      omega
    · have h3 := hD.wf c h1 (by omega)
      have e : va_up F 3 (fu (F 3) (I 2) 0) 3 c = F 3 c := by rw [va_up_self, fu_n hc]
      rw [e]
      exact h3
  · refine Or.inr ⟨a, len, f1, va_up_self _ _ _, hax.1, hax.2.1, ?_, va_up_self _ _ _, ?_, ?_, hA3, fun i hi => ?_⟩
    · rcases hA1 with z | z
      · rw [how a z.2.1]; exact z.2.2.1
      · unfold owC; rw [if_neg (by omega), if_neg (by omega), if_neg (by omega)]
    · rw [va_up_self]; omega
    · rw [va_up_self]; exact hA2
    · rw [va_up_self] at hi
      unfold caN
      by_cases hc : i = (I 2).toNat
      · rw [if_pos hc, hc]; exact hA5
      · rw [if_neg hc]; exact hA4 i (by omega)
  · intro c hc
    rw [va_up_self] at hc
    by_cases hcn : c = (I 2).toNat
    · have e : caN ca (I 2).toNat nx c = nx := if_pos hcn
      rw [e]
      refine ⟨hx, by omega, ?_, ?_, ?_⟩
      · unfold owC; rw [if_neg (by omega), if_pos rfl]; omega
      · unfold owC; rw [if_neg (by omega), if_neg (by omega), if_pos rfl]; omega
      · rw [va_up_ne _ _ (by omega), hC_0]
    · have e : caN ca (I 2).toNat nx c = ca c := if_neg hcn
      obtain ⟨q1, q2, q3, q4, q5⟩ := hD.oc c (by omega)
      rw [e, how _ (by omega), how _ (by omega), hold _ (by omega) (by omega)]
      exact ⟨q1, by omega, q3, q4, q5⟩
  · intro c hc
    rw [va_up_self] at hc
    by_cases hcn : c = (I 2).toNat
    · have e : caN ca (I 2).toNat nx c = nx := if_pos hcn
      have e0 : va_up F 3 (fu (F 3) (I 2) 0) 3 (c : Int) = 0 := by rw [va_up_self, show (c : Int) = I 2 by omega, fu_s]
      rw [e, e0]
      exact ⟨0, .float 0, by rw [va_up_ne _ _ (by omega), hC_1], Or.inl ⟨rfl, rfl⟩⟩
    · have e : caN ca (I 2).toNat nx c = ca c := if_neg hcn
      obtain ⟨q1, q2, q3, q4, q5⟩ := hD.oc c (by omega)
      obtain ⟨m, v, r1, r2⟩ := hD.ol c (by omega)
      rw [e, e3 c (by omega), hold _ (by omega) (by omega)]
      exact ⟨m, v, r1, r2.mono (by omega) (fun q g1 g2 g3 => ⟨by rw [how q g2]; exact g3, hold q g2 (by omega)⟩) (fun _ _ => rfl)⟩
  · intro c s hc hs
    rw [va_up_self] at hc
    by_cases hcn : c = (I 2).toNat
    · rw [va_up_self, show (c : Int) = I 2 by omega, fu_s] at hs
      omega
    · rw [e3 c (by omega)] at hs
      obtain ⟨q1, q2, q3, q4⟩ := hD.os c s (by omega) hs
      rw [how _ (by omega), hold _ (by omega) (by omega)]
      exact ⟨q1, by omega, q3, q4⟩
  · exact hD.rg
  · refine ⟨by omega, fun q hq => ?_, fun q h1 h2 => ⟨by rw [how q h1]; exact h2, hold q h1 (by omega)⟩⟩
    rw [va_up_ne _ _ (by omega), hC_lt (by omega)]
set_option maxRecDepth 20000 in
theorem k_X8_chant0 {l0 : Launch} {g : Gw} {w nx : Nat} {h : Nat → va_E} {C : Nat → Nat → Int} {A : Nat → Int → Int} {V : Nat → Value} {I : Nat → Int} {F : Nat → Int → Int} {ca : Nat → Nat} {sa : Nat → Nat → Nat} {own : Nat → Nat} (hD : RDy h nx C V I F ca sa own) (hf : I 2 = 12) : MD l0 g 9 mX8_chant (cp w C A V h, nx) [.ref 0] 3 19 (some (.int (iI (-2)))) (cp w C A V h, nx) := by
  refine MD.of (by decide +kernel) (by simp [Value.category]) (tle rfl) (fun X b => ?_)
  change WW X g _ _ 0 0 0 [some (.ref 0)] [] _
  refine w_aload_n b dX8_chant_0 rfl rfl ?_
  refine q_get b dX8_chant_1 lfX8_33 (tlt rfl) ct_0 rfl ?_
  refine c_V0 b dX8_chant_4 lmX8_51 (cpS (tlt rfl) ct_230) (k_X0_addChant0 hD hf) (tle rfl) (by omega) (by omega) (by omega) ?_
  exact w_iret b dX8_chant_7 rfl (by omega) (by omega) ⟨iv_eq (by first | rfl | omega | ((try simp only [b2]); ((repeat' split) <;> (first | rfl | omega)))), rfl⟩
set_option maxRecDepth 20000 in
theorem k_X8_chant1 {l0 : Launch} {g : Gw} {w nx : Nat} {h : Nat → va_E} {C : Nat → Nat → Int} {A : Nat → Int → Int} {V : Nat → Value} {I : Nat → Int} {F : Nat → Int → Int} {ca : Nat → Nat} {sa : Nat → Nat → Nat} {own : Nat → Nat} (hD : RDy h nx C V I F ca sa own) (hx : 291 ≤ nx) (hf : I 2 < 12) : MM l0 g 9 mX8_chant (cp w C A V h, nx) [.ref 0] 3 19 (fun r σ' => r = some (.int (iI (I 2))) ∧ ∃ (C1 : Nat → Nat → Int) (V1 : Nat → Value) (h1 : Nat → va_E) (nx1 : Nat) (ca1 : Nat → Nat) (sa1 : Nat → Nat → Nat) (own1 : Nat → Nat), σ' = (cp w C1 A V1 h1, nx1) ∧ RDy h1 nx1 C1 V1 (va_up I 2 (I 2 + 1)) (va_up F 3 (fu (F 3) (I 2) 0)) ca1 sa1 own1 ∧ frD h own nx h1 own1 nx1 ∧ (∀ q, q ≠ 231 → C1 q = C q ∧ V1 q = V q)) := by
  refine MM.of (by decide +kernel) (by simp [Value.category]) (tle rfl) (fun X b => ?_)
  change WW X g _ _ 0 0 0 [some (.ref 0)] [] _
  refine w_aload_n b dX8_chant_0 rfl rfl ?_
  refine q_get b dX8_chant_1 lfX8_33 (tlt rfl) ct_0 rfl ?_
  refine w_callV (d' := 8) (mc' := 3) (ms' := 19) (st := []) (vs := []) b dX8_chant_4 lmX8_51 rfl rfl (cpS (tlt rfl) ct_230) (tle rfl) (by omega) (by omega) (by omega) (k_X0_addChant1 hD hx hf) (fun r σ' hz => ?_)
  obtain ⟨rfl, m1, a, len, nx1, f1, hA, rfl⟩ := hz
  exact w_iret b dX8_chant_7 rfl (by omega) (by omega) ⟨rfl, _, _, _, _, _, _, _, rfl, (hD.addC (m1 := m1) hx hf hA).1, (hD.addC (m1 := m1) hx hf hA).2, fun q hq => ⟨va_up_ne _ _ hq, va_up_ne _ _ hq⟩⟩
