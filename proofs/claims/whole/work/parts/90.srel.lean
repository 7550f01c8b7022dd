/-! CLASS AND REFERENCE: the whole relation (by p90.py) -/
def RSd (h : Nat → va_E) (nx : Nat) (C : Nat → Nat → Int) (A : Nat → Int → Int) (V : Nat → Value) (F : Nat → Int → Int) (own : Nat → Nat) (d : Int) : Prop := (C (241 + 2 * d.toNat) 1 = F 35 d) ∧ (F 35 d = 0 ∨ F 35 d = 1 ∨ F 35 d = 3 ∨ F 35 d = 4) ∧ (0 ≤ C (241 + 2 * d.toNat) 2 ∧ C (241 + 2 * d.toNat) 2 ≤ 60) ∧ (0 ≤ F 39 d ∧ F 39 d ≤ 60) ∧ (3 ≤ F 35 d → C (241 + 2 * d.toNat) 2 = F 39 d ∧ ∀ i, 0 ≤ i → i < F 39 d → A ((241 + 2 * d.toNat) + 1) i = F 40 (60 * d + i)) ∧ (∀ i, 0 ≤ i → i < C (241 + 2 * d.toNat) 2 → -32768 ≤ A ((241 + 2 * d.toNat) + 1) i ∧ A ((241 + 2 * d.toNat) + 1) i < 32768) ∧ (F 35 d = 1 → (∃ q : Nat, V (241 + 2 * d.toNat) = .ref q ∧ 291 ≤ q ∧ q < nx ∧ own q = 300 ∧ h q = .inr (5, [.int (iI (F 36 d)), .int (iI (F 38 d)), .int (iI (F 37 d))])) ∧ 0 ≤ F 36 d ∧ F 36 d ≤ 5) ∧ (¬ F 35 d = 1 → V (241 + 2 * d.toNat) = .null)
theorem RSd.k {h : Nat → va_E} {nx : Nat} {C : Nat → Nat → Int} {A : Nat → Int → Int} {V : Nat → Value} {F : Nat → Int → Int} {own : Nat → Nat} {d : Int} (hR : RSd h nx C A V F own d) : C (241 + 2 * d.toNat) 1 = F 35 d := hR.1
theorem RSd.kk {h : Nat → va_E} {nx : Nat} {C : Nat → Nat → Int} {A : Nat → Int → Int} {V : Nat → Value} {F : Nat → Int → Int} {own : Nat → Nat} {d : Int} (hR : RSd h nx C A V F own d) : F 35 d = 0 ∨ F 35 d = 1 ∨ F 35 d = 3 ∨ F 35 d = 4 := hR.2.1
theorem RSd.z {h : Nat → va_E} {nx : Nat} {C : Nat → Nat → Int} {A : Nat → Int → Int} {V : Nat → Value} {F : Nat → Int → Int} {own : Nat → Nat} {d : Int} (hR : RSd h nx C A V F own d) : 0 ≤ C (241 + 2 * d.toNat) 2 ∧ C (241 + 2 * d.toNat) 2 ≤ 60 := hR.2.2.1
theorem RSd.z39 {h : Nat → va_E} {nx : Nat} {C : Nat → Nat → Int} {A : Nat → Int → Int} {V : Nat → Value} {F : Nat → Int → Int} {own : Nat → Nat} {d : Int} (hR : RSd h nx C A V F own d) : 0 ≤ F 39 d ∧ F 39 d ≤ 60 := hR.2.2.2.1
theorem RSd.e {h : Nat → va_E} {nx : Nat} {C : Nat → Nat → Int} {A : Nat → Int → Int} {V : Nat → Value} {F : Nat → Int → Int} {own : Nat → Nat} {d : Int} (hR : RSd h nx C A V F own d) : 3 ≤ F 35 d → C (241 + 2 * d.toNat) 2 = F 39 d ∧ ∀ i, 0 ≤ i → i < F 39 d → A ((241 + 2 * d.toNat) + 1) i = F 40 (60 * d + i) := hR.2.2.2.2.1
theorem RSd.r {h : Nat → va_E} {nx : Nat} {C : Nat → Nat → Int} {A : Nat → Int → Int} {V : Nat → Value} {F : Nat → Int → Int} {own : Nat → Nat} {d : Int} (hR : RSd h nx C A V F own d) : ∀ i, 0 ≤ i → i < C (241 + 2 * d.toNat) 2 → -32768 ≤ A ((241 + 2 * d.toNat) + 1) i ∧ A ((241 + 2 * d.toNat) + 1) i < 32768 := hR.2.2.2.2.2.1
theorem RSd.s {h : Nat → va_E} {nx : Nat} {C : Nat → Nat → Int} {A : Nat → Int → Int} {V : Nat → Value} {F : Nat → Int → Int} {own : Nat → Nat} {d : Int} (hR : RSd h nx C A V F own d) : F 35 d = 1 → (∃ q : Nat, V (241 + 2 * d.toNat) = .ref q ∧ 291 ≤ q ∧ q < nx ∧ own q = 300 ∧ h q = .inr (5, [.int (iI (F 36 d)), .int (iI (F 38 d)), .int (iI (F 37 d))])) ∧ 0 ≤ F 36 d ∧ F 36 d ≤ 5 := hR.2.2.2.2.2.2.1
theorem RSd.n {h : Nat → va_E} {nx : Nat} {C : Nat → Nat → Int} {A : Nat → Int → Int} {V : Nat → Value} {F : Nat → Int → Int} {own : Nat → Nat} {d : Int} (hR : RSd h nx C A V F own d) : ¬ F 35 d = 1 → V (241 + 2 * d.toNat) = .null := hR.2.2.2.2.2.2.2
def RSh (h : Nat → va_E) (nx : Nat) (C : Nat → Nat → Int) (A : Nat → Int → Int) (V : Nat → Value) (F : Nat → Int → Int) (own : Nat → Nat) : Prop := ∀ d : Int, 0 ≤ d → d ≤ 7 → RSd h nx C A V F own d
def RVi (C : Nat → Nat → Int) (A : Nat → Int → Int) (I : Nat → Int) (F : Nat → Int → Int) : Prop := (C 234 5 = I 27) ∧ (0 ≤ I 27 ∧ I 27 ≤ 8) ∧ (A 235 = F 30) ∧ (∀ j, 0 ≤ j → j < 8 → 0 ≤ F 30 j ∧ F 30 j < 2 ^ 8) ∧ (C 234 6 = (treeW (F 30) (I 27)).2.2.1) ∧ (C 234 7 = (treeW (F 30) (I 27)).2.2.2) ∧ (∀ i, 0 ≤ i → i < (treeW (F 30) (I 27)).2.2.1 → A 239 i = (treeW (F 30) (I 27)).2.1 i) ∧ (SB (A 237, A 238))
theorem RVi.n {C : Nat → Nat → Int} {A : Nat → Int → Int} {I : Nat → Int} {F : Nat → Int → Int} (hR : RVi C A I F) : C 234 5 = I 27 := hR.1
theorem RVi.r {C : Nat → Nat → Int} {A : Nat → Int → Int} {I : Nat → Int} {F : Nat → Int → Int} (hR : RVi C A I F) : 0 ≤ I 27 ∧ I 27 ≤ 8 := hR.2.1
theorem RVi.w {C : Nat → Nat → Int} {A : Nat → Int → Int} {I : Nat → Int} {F : Nat → Int → Int} (hR : RVi C A I F) : A 235 = F 30 := hR.2.2.1
theorem RVi.b {C : Nat → Nat → Int} {A : Nat → Int → Int} {I : Nat → Int} {F : Nat → Int → Int} (hR : RVi C A I F) : ∀ j, 0 ≤ j → j < 8 → 0 ≤ F 30 j ∧ F 30 j < 2 ^ 8 := hR.2.2.2.1
theorem RVi.l {C : Nat → Nat → Int} {A : Nat → Int → Int} {I : Nat → Int} {F : Nat → Int → Int} (hR : RVi C A I F) : C 234 6 = (treeW (F 30) (I 27)).2.2.1 := hR.2.2.2.2.1
theorem RVi.s {C : Nat → Nat → Int} {A : Nat → Int → Int} {I : Nat → Int} {F : Nat → Int → Int} (hR : RVi C A I F) : C 234 7 = (treeW (F 30) (I 27)).2.2.2 := hR.2.2.2.2.2.1
theorem RVi.k {C : Nat → Nat → Int} {A : Nat → Int → Int} {I : Nat → Int} {F : Nat → Int → Int} (hR : RVi C A I F) : ∀ i, 0 ≤ i → i < (treeW (F 30) (I 27)).2.2.1 → A 239 i = (treeW (F 30) (I 27)).2.1 i := hR.2.2.2.2.2.2.1
theorem RVi.sb {C : Nat → Nat → Int} {A : Nat → Int → Int} {I : Nat → Int} {F : Nat → Int → Int} (hR : RVi C A I F) : SB (A 237, A 238) := hR.2.2.2.2.2.2.2
def RSx (w : Nat) (C : Nat → Nat → Int) (A : Nat → Int → Int) (V : Nat → Value) (h : Nat → va_E) (nx : Nat) (I : Nat → Int) (F : Nat → Int → Int) (ca : Nat → Nat) (sa : Nat → Nat → Nat) (own : Nat → Nat) : Prop := (RDy h nx C V I F ca sa own) ∧ (RCa w C A I F) ∧ (RSh h nx C A V F own) ∧ (RVi C A I F) ∧ (col7 (F 7)) ∧ (col7 (A 232)) ∧ (∀ j, 0 ≤ j → j < 12 → 0 ≤ F 3 j ∧ F 3 j ≤ 12) ∧ (291 ≤ nx) ∧ (∃ f, h 290 = .inl (3, 1, .inr (.inl f)))
theorem RSx.dy {w : Nat} {C : Nat → Nat → Int} {A : Nat → Int → Int} {V : Nat → Value} {h : Nat → va_E} {nx : Nat} {I : Nat → Int} {F : Nat → Int → Int} {ca : Nat → Nat} {sa : Nat → Nat → Nat} {own : Nat → Nat} (hR : RSx w C A V h nx I F ca sa own) : RDy h nx C V I F ca sa own := hR.1
theorem RSx.ca {w : Nat} {C : Nat → Nat → Int} {A : Nat → Int → Int} {V : Nat → Value} {h : Nat → va_E} {nx : Nat} {I : Nat → Int} {F : Nat → Int → Int} {ca : Nat → Nat} {sa : Nat → Nat → Nat} {own : Nat → Nat} (hR : RSx w C A V h nx I F ca sa own) : RCa w C A I F := hR.2.1
theorem RSx.sh {w : Nat} {C : Nat → Nat → Int} {A : Nat → Int → Int} {V : Nat → Value} {h : Nat → va_E} {nx : Nat} {I : Nat → Int} {F : Nat → Int → Int} {ca : Nat → Nat} {sa : Nat → Nat → Nat} {own : Nat → Nat} (hR : RSx w C A V h nx I F ca sa own) : RSh h nx C A V F own := hR.2.2.1
theorem RSx.vi {w : Nat} {C : Nat → Nat → Int} {A : Nat → Int → Int} {V : Nat → Value} {h : Nat → va_E} {nx : Nat} {I : Nat → Int} {F : Nat → Int → Int} {ca : Nat → Nat} {sa : Nat → Nat → Nat} {own : Nat → Nat} (hR : RSx w C A V h nx I F ca sa own) : RVi C A I F := hR.2.2.2.1
theorem RSx.c7 {w : Nat} {C : Nat → Nat → Int} {A : Nat → Int → Int} {V : Nat → Value} {h : Nat → va_E} {nx : Nat} {I : Nat → Int} {F : Nat → Int → Int} {ca : Nat → Nat} {sa : Nat → Nat → Nat} {own : Nat → Nat} (hR : RSx w C A V h nx I F ca sa own) : col7 (F 7) := hR.2.2.2.2.1
theorem RSx.k7 {w : Nat} {C : Nat → Nat → Int} {A : Nat → Int → Int} {V : Nat → Value} {h : Nat → va_E} {nx : Nat} {I : Nat → Int} {F : Nat → Int → Int} {ca : Nat → Nat} {sa : Nat → Nat → Nat} {own : Nat → Nat} (hR : RSx w C A V h nx I F ca sa own) : col7 (A 232) := hR.2.2.2.2.2.1
theorem RSx.h3 {w : Nat} {C : Nat → Nat → Int} {A : Nat → Int → Int} {V : Nat → Value} {h : Nat → va_E} {nx : Nat} {I : Nat → Int} {F : Nat → Int → Int} {ca : Nat → Nat} {sa : Nat → Nat → Nat} {own : Nat → Nat} (hR : RSx w C A V h nx I F ca sa own) : ∀ j, 0 ≤ j → j < 12 → 0 ≤ F 3 j ∧ F 3 j ≤ 12 := hR.2.2.2.2.2.2.1
theorem RSx.nx {w : Nat} {C : Nat → Nat → Int} {A : Nat → Int → Int} {V : Nat → Value} {h : Nat → va_E} {nx : Nat} {I : Nat → Int} {F : Nat → Int → Int} {ca : Nat → Nat} {sa : Nat → Nat → Nat} {own : Nat → Nat} (hR : RSx w C A V h nx I F ca sa own) : 291 ≤ nx := hR.2.2.2.2.2.2.2.1
theorem RSx.out {w : Nat} {C : Nat → Nat → Int} {A : Nat → Int → Int} {V : Nat → Value} {h : Nat → va_E} {nx : Nat} {I : Nat → Int} {F : Nat → Int → Int} {ca : Nat → Nat} {sa : Nat → Nat → Nat} {own : Nat → Nat} (hR : RSx w C A V h nx I F ca sa own) : ∃ f, h 290 = .inl (3, 1, .inr (.inl f)) := hR.2.2.2.2.2.2.2.2
theorem cp_mp (w : Nat) (C : Nat → Nat → Int) (A : Nat → Int → Int) (V : Nat → Value) (h : Nat → va_E) (I : Nat → Int) (F : Nat → Int → Int) : cp w C A V (mp 257 h I F) = mp 257 (cp w C A V h) I F := by
  funext q
  by_cases c : 257 ≤ q
  · rw [cp_ge c]
    by_cases d : q = 257
    · rw [d, mp_obj, mp_obj]
    · by_cases e : 257 + 32 < q
      · rw [mp_out (.inr e), mp_out (.inr e), cp_ge c]
      · unfold mp
        rw [if_neg d, if_neg d, cp_ge c]
  · rw [cp_lt (by omega), mp_out (.inl (by omega)), cp_lt (by omega)]
theorem mp_idem {h h1 : Nat → va_E} {I : Nat → Int} {F : Nat → Int → Int} (hq : ∀ q, q < 291 → h1 q = mp 257 h I F q) : h1 = mp 257 h1 I F := by
  funext q
  by_cases c : q < 257 ∨ 257 + 32 < q
  · rw [mp_out c]
  · rw [hq q (by omega)]
    by_cases d : q = 257
    · rw [d, mp_obj, mp_obj]
    · unfold mp
      rw [if_neg d, if_neg d, if_pos (by omega), if_pos (by omega)]
      have hm : q - (257 + 1) < 32 := by omega
      cases e : marr[q - (257 + 1)]? with
      | some x => rfl
      | none => exact absurd e (by rw [List.getElem?_eq_none_iff]; show ¬ 32 ≤ _; omega)
theorem RDy.cong {h h' : Nat → va_E} {nx : Nat} {C C' : Nat → Nat → Int} {V V' : Nat → Value} {I I' : Nat → Int} {F F' : Nat → Int → Int} {ca : Nat → Nat} {sa : Nat → Nat → Nat} {own : Nat → Nat} (hD : RDy h nx C V I F ca sa own) (hh : ∀ q, 291 ≤ q → h' q = h q) (hC : C' 231 2 = C 231 2) (hV : V' 231 = V 231) (hI : I' 2 = I 2) (h3 : F' 3 = F 3) (h4 : F' 4 = F 4) (h5 : F' 5 = F 5) (h6 : F' 6 = F 6) : RDy h' nx C' V' I' F' ca sa own := by
  have hL : ∀ {tag : Nat} {v : Value} {n : Int} {el : Nat → Nat}, LSl h nx own tag v n el → LSl h' nx own tag v n el := fun hl => by
    rcases hl with z | ⟨a, len, f, z1, z2, z3, z4, z5, z6⟩
    · exact .inl z
    · exact .inr ⟨a, len, f, z1, z2, z3, z4, by rw [hh a z2]; exact z5, z6⟩
  refine ⟨by rw [hC, hI]; exact hD.n1, by rw [hI]; exact hD.n2, ?_, by rw [hV, hI]; exact hL hD.lc, fun c hc => ?_, fun c hc => ?_, fun c s hc hs => ?_, ?_⟩
  · have := hD.wf
    unfold wfC at this ⊢
    rw [hI, h3, h4, h5, h6]
    exact this
  · rw [hI] at hc
    have := hD.oc c hc
    exact ⟨this.1, this.2.1, this.2.2.1, this.2.2.2.1, by rw [hh _ this.1]; exact this.2.2.2.2⟩
  · rw [hI] at hc
    obtain ⟨m, v, q1, q2⟩ := hD.ol c hc
    have := hD.oc c hc
    exact ⟨m, v, by rw [hh _ (by omega), h3]; exact q1, by rw [h3]; exact hL q2⟩
  · rw [hI] at hc
    rw [h3] at hs
    have := hD.os c s hc hs
    refine ⟨this.1, this.2.1, this.2.2.1, ?_⟩
    rw [hh _ this.1, this.2.2.2]
    unfold stE
    rw [h4, h5, h6]
  · rw [h4, h5, h6]; exact hD.rg
theorem RDy.mp {h : Nat → va_E} {nx : Nat} {C : Nat → Nat → Int} {V : Nat → Value} {I J : Nat → Int} {F G : Nat → Int → Int} {ca : Nat → Nat} {sa : Nat → Nat → Nat} {own : Nat → Nat} (hD : RDy h nx C V I F ca sa own) : RDy (mp 257 h J G) nx C V I F ca sa own := hD.cong (fun q hq => mp_out (.inr (by omega))) rfl rfl rfl rfl rfl rfl rfl
theorem RCa.cong {w : Nat} {C C' : Nat → Nat → Int} {A A' : Nat → Int → Int} {I I' : Nat → Int} {F F' : Nat → Int → Int} (hR : RCa w C A I F) (hC : ∀ q, q < 230 → C' q = C q) (hA : ∀ q, q < 230 → A' q = A q) (hI : I' 1 = I 1) (hJ : I' 21 = I 21) (h16 : F' 16 = F 16) (h17 : F' 17 = F 17) (h18 : F' 18 = F 18) (h19 : F' 19 = F 19) (h20 : F' 20 = F 20) (h22 : F' 22 = F 22) (h23 : F' 23 = F 23) (h24 : F' 24 = F 24) (h25 : F' 25 = F 25) (h26 : F' 26 = F 26) : RCa w C' A' I' F' := by
  exact ⟨by rw [hI]; exact hR.w1, hR.w2, by rw [hC 1 (by omega), hJ]; exact hR.t1, by rw [hJ]; exact hR.t2, by rw [hA 2 (by omega), h16]; exact hR.a2, by rw [h16]; exact hR.b16, by rw [hA 3 (by omega), h17]; exact hR.a3, by rw [h17]; exact hR.b17, fun c q1 q2 => by rw [hC _ (by omega), h18]; exact hR.c18 c q1 q2, by rw [h18]; exact hR.b18, fun c l q1 q2 q3 q4 => by rw [hA _ (by omega), h19]; exact hR.a19 c l q1 q2 q3 q4, by rw [h19]; exact hR.b19, fun c l q1 q2 q3 q4 => by rw [hA _ (by omega), h20]; exact hR.a20 c l q1 q2 q3 q4, by rw [h20]; exact hR.b20, by rw [h18, h20]; exact hR.z20, fun c l q1 q2 q3 q4 => by rw [hA _ (by omega), h22]; exact hR.a22 c l q1 q2 q3 q4, fun c l q1 q2 q3 q4 => by rw [hA _ (by omega), h23]; exact hR.a23 c l q1 q2 q3 q4, fun c l q1 q2 q3 q4 => by rw [hA _ (by omega), h24]; exact hR.a24 c l q1 q2 q3 q4, fun c l q1 q2 q3 q4 => by rw [hA _ (by omega), h25]; exact hR.a25 c l q1 q2 q3 q4, by rw [h22]; exact hR.b22, by rw [h23]; exact hR.b23, by rw [h24]; exact hR.b24, by rw [h25]; exact hR.b25, fun c q1 q2 => by rw [hC _ (by omega), h26]; exact hR.c26 c q1 q2, by rw [h26]; exact hR.b26⟩
theorem RSd.cong {h h' : Nat → va_E} {nx nx' : Nat} {C C' : Nat → Nat → Int} {A A' : Nat → Int → Int} {V V' : Nat → Value} {F F' : Nat → Int → Int} {own own' : Nat → Nat} {d : Int} (hR : RSd h nx C A V F own d) (hC : C' (241 + 2 * d.toNat) = C (241 + 2 * d.toNat)) (hA : A' (241 + 2 * d.toNat + 1) = A (241 + 2 * d.toNat + 1)) (hV : V' (241 + 2 * d.toNat) = V (241 + 2 * d.toNat)) (hn : nx ≤ nx') (ho : ∀ q, 291 ≤ q → q < nx → own q = 300 → own' q = 300 ∧ h' q = h q) (h35 : F' 35 d = F 35 d) (h36 : F' 36 d = F 36 d) (h37 : F' 37 d = F 37 d) (h38 : F' 38 d = F 38 d) (h39 : F' 39 d = F 39 d) (h40 : ∀ i, 0 ≤ i → i < 60 → F' 40 (60 * d + i) = F 40 (60 * d + i)) : RSd h' nx' C' A' V' F' own' d := by
  refine ⟨by rw [hC, h35]; exact hR.k, by rw [h35]; exact hR.kk, by rw [hC]; exact hR.z, by rw [h39]; exact hR.z39, fun q => ?_, by rw [hC, hA]; exact hR.r, fun q => ?_, by rw [h35, hV]; exact hR.n⟩
  · rw [h35] at q
    have := hR.e q
    have := hR.z39
    exact ⟨by rw [hC, h39]; exact (hR.e q).1, fun i i1 i2 => by rw [h39] at i2; rw [hA, h40 i i1 (by omega)]; exact (hR.e q).2 i i1 i2⟩
  · rw [h35] at q
    obtain ⟨⟨x, x1, x2, x3, x4, x5⟩, y⟩ := hR.s q
    have := ho x x2 x3 x4
    exact ⟨⟨x, by rw [hV]; exact x1, x2, by omega, this.1, by rw [this.2, x5, h36, h37, h38]⟩, by rw [h36]; exact y⟩
theorem RSh.cong {h h' : Nat → va_E} {nx nx' : Nat} {C C' : Nat → Nat → Int} {A A' : Nat → Int → Int} {V V' : Nat → Value} {F F' : Nat → Int → Int} {own own' : Nat → Nat} (hR : RSh h nx C A V F own) (hC : ∀ q, 241 ≤ q → q < 257 → C' q = C q) (hA : ∀ q, 241 ≤ q → q < 257 → A' q = A q) (hV : ∀ q, 241 ≤ q → q < 257 → V' q = V q) (hn : nx ≤ nx') (ho : ∀ q, 291 ≤ q → q < nx → own q = 300 → own' q = 300 ∧ h' q = h q) (h35 : F' 35 = F 35) (h36 : F' 36 = F 36) (h37 : F' 37 = F 37) (h38 : F' 38 = F 38) (h39 : F' 39 = F 39) (h40 : F' 40 = F 40) : RSh h' nx' C' A' V' F' own' := fun d d1 d2 => (hR d d1 d2).cong (hC _ (by omega) (by omega)) (hA _ (by omega) (by omega)) (hV _ (by omega) (by omega)) hn ho (by rw [h35]) (by rw [h36]) (by rw [h37]) (by rw [h38]) (by rw [h39]) (fun i _ _ => by rw [h40])
theorem RVi.cong {C C' : Nat → Nat → Int} {A A' : Nat → Int → Int} {I I' : Nat → Int} {F F' : Nat → Int → Int} (hR : RVi C A I F) (hC : C' 234 = C 234) (h5 : A' 235 = A 235) (h7 : A' 237 = A 237) (h8 : A' 238 = A 238) (h9 : A' 239 = A 239) (hI : I' 27 = I 27) (h30 : F' 30 = F 30) : RVi C' A' I' F' := by
  refine ⟨by rw [hC, hI]; exact hR.n, by rw [hI]; exact hR.r, by rw [h5, h30]; exact hR.w, by rw [h30]; exact hR.b, by rw [hC, hI, h30]; exact hR.l, by rw [hC, hI, h30]; exact hR.s, by rw [h9, hI, h30]; exact hR.k, by rw [h7, h8]; exact hR.sb⟩
def WI (w : Nat) (σ : Sg) : Prop := ∃ (C : Nat → Nat → Int) (A : Nat → Int → Int) (V : Nat → Value) (h : Nat → va_E) (nx : Nat) (I : Nat → Int) (F : Nat → Int → Int) (ca : Nat → Nat) (sa : Nat → Nat → Nat) (own : Nat → Nat), σ = (cp w C A V (mp 257 h I F), nx) ∧ RSx w C A V h nx I F ca sa own
/-- the reference's object stands -/
def M9 (σ : Sg) : Prop := ∃ fs, σ.1 257 = .inr (9, fs)
theorem m9_mp {h0 : Nat → va_E} {I : Nat → Int} {F : Nat → Int → Int} {nx : Nat} : M9 (mp 257 h0 I F, nx) := ⟨_, mp_obj 257 h0 I F⟩
theorem m9_cp {w nx : Nat} {C : Nat → Nat → Int} {A : Nat → Int → Int} {V : Nat → Value} {h : Nat → va_E} {I : Nat → Int} {F : Nat → Int → Int} : M9 (cp w C A V (mp 257 h I F), nx) := by rw [cp_mp]; exact m9_mp
/-- a call of the class and then of the reference: one answer, and the relation stands -/
def SIM (l0 : Launch) (g : Gw) (w : Nat) (m8 m9 : Md) (vs : List Value) : Prop := ∀ σ, WI w σ → ∃ d mc ms : Nat, d ≤ 40 ∧ mc ≤ 3 ∧ ms ≤ 19 ∧ MM l0 g d m8 σ (.ref 0 :: vs) mc ms (fun r σ1 => ∃ z : Int, r = some (.int (iI z)) ∧ ∃ e : Nat, e ≤ 40 ∧ M9 σ1 ∧ MM l0 g e m9 σ1 (.ref 257 :: vs) 0 0 (fun r2 σ2 => r2 = some (.int (iI z)) ∧ WI w σ2))
theorem sim_of {l0 : Launch} {g : Gw} {w : Nat} {m8 m9 : Md} {vs : List Value} (H : ∀ C A V h nx I F ca sa own, RSx w C A V h nx I F ca sa own → ∃ (d mc ms : Nat) (z : Int) (Q : Sg → Prop), d ≤ 40 ∧ mc ≤ 3 ∧ ms ≤ 19 ∧ MM l0 g d m8 (cp w C A V (mp 257 h I F), nx) (.ref 0 :: vs) mc ms (fun r σ1 => r = some (.int (iI z)) ∧ Q σ1) ∧ ∀ σ1, Q σ1 → ∃ e : Nat, e ≤ 40 ∧ M9 σ1 ∧ MM l0 g e m9 σ1 (.ref 257 :: vs) 0 0 (fun r2 σ2 => r2 = some (.int (iI z)) ∧ WI w σ2)) : SIM l0 g w m8 m9 vs := by
  intro σ hσ
  obtain ⟨C, A, V, h, nx, I, F, ca, sa, own, rfl, hR⟩ := hσ
  obtain ⟨d, mc, ms, z, Q, h1, h2, h3, hM, hN⟩ := H C A V h nx I F ca sa own hR
  exact ⟨d, mc, ms, h1, h2, h3, hM.mono (fun r σ1 q => ⟨z, q.1, hN σ1 q.2⟩)⟩
theorem sim_md {l0 : Launch} {g : Gw} {w : Nat} {m8 m9 : Md} {vs : List Value} {d mc ms e nx nx' : Nat} {z : Int} {C C' : Nat → Nat → Int} {A A' : Nat → Int → Int} {V V' : Nat → Value} {h h' : Nat → va_E} {I I' : Nat → Int} {F F' : Nat → Int → Int} {ca' : Nat → Nat} {sa' : Nat → Nat → Nat} {own' : Nat → Nat} (hd : d ≤ 40) (hc : mc ≤ 3) (hs : ms ≤ 19) (he : e ≤ 40) (hM : MD l0 g d m8 (cp w C A V (mp 257 h I F), nx) (.ref 0 :: vs) mc ms (some (.int (iI z))) (cp w C' A' V' (mp 257 h' I F), nx')) (hN : MD l0 g e m9 (mp 257 (cp w C' A' V' h') I F, nx') (.ref 257 :: vs) 0 0 (some (.int (iI z))) (mp 257 (cp w C' A' V' h') I' F', nx')) (hW : RSx w C' A' V' h' nx' I' F' ca' sa' own') : ∃ (d mc ms : Nat) (z : Int) (Q : Sg → Prop), d ≤ 40 ∧ mc ≤ 3 ∧ ms ≤ 19 ∧ MM l0 g d m8 (cp w C A V (mp 257 h I F), nx) (.ref 0 :: vs) mc ms (fun r σ1 => r = some (.int (iI z)) ∧ Q σ1) ∧ ∀ σ1, Q σ1 → ∃ e : Nat, e ≤ 40 ∧ M9 σ1 ∧ MM l0 g e m9 σ1 (.ref 257 :: vs) 0 0 (fun r2 σ2 => r2 = some (.int (iI z)) ∧ WI w σ2) :=
  ⟨d, mc, ms, z, fun σ1 => σ1 = (cp w C' A' V' (mp 257 h' I F), nx'), hd, hc, hs, hM, fun σ1 hq => ⟨e, he, by rw [hq]; exact m9_cp, by
    rw [hq, cp_mp]
    exact MM.mono hN (fun r σ2 q => ⟨q.1, C', A', V', h', nx', I', F', ca', sa', own', by rw [q.2, cp_mp], hW⟩)⟩⟩
