/-! CLASS AND REFERENCE: shelves (by p95.py) -/
theorem RDy.grow {h h' : Nat → va_E} {nx nx' : Nat} {C C' : Nat → Nat → Int} {V V' : Nat → Value} {I : Nat → Int} {F F' : Nat → Int → Int} {ca : Nat → Nat} {sa : Nat → Nat → Nat} {own own' : Nat → Nat} (hD : RDy h nx C V I F ca sa own) (hn : nx ≤ nx') (hh : ∀ q, 291 ≤ q → q < nx → h' q = h q) (ho : ∀ q, q < nx → own' q = own q) (hC : C' 231 2 = C 231 2) (hV : V' 231 = V 231) (h3 : F' 3 = F 3) (h4 : F' 4 = F 4) (h5 : F' 5 = F 5) (h6 : F' 6 = F 6) : RDy h' nx' C' V' I F' ca sa own' := by
  have hL : ∀ {tag : Nat} {v : Value} {n : Int} {el : Nat → Nat}, LSl h nx own tag v n el → LSl h' nx' own' tag v n el := fun hl => by
    rcases hl with z | ⟨a, len, f, z1, z2, z3, z4, z5, z6⟩
    · exact .inl z
    · exact .inr ⟨a, len, f, z1, z2, by omega, by rw [ho a z3]; exact z4, by rw [hh a z2 z3]; exact z5, z6⟩
  refine ⟨by rw [hC]; exact hD.n1, hD.n2, ?_, by rw [hV]; exact hL hD.lc, fun c hc => ?_, fun c hc => ?_, fun c s hc hs => ?_, ?_⟩
  · have := hD.wf
    unfold wfC at this ⊢
    rw [h3, h4, h5, h6]
    exact this
  · have := hD.oc c hc
    exact ⟨this.1, by omega, by rw [ho _ (by omega)]; exact this.2.2.1, by rw [ho _ (by omega)]; exact this.2.2.2.1, by rw [hh _ this.1 (by omega)]; exact this.2.2.2.2⟩
  · obtain ⟨m, v, q1, q2⟩ := hD.ol c hc
    have := hD.oc c hc
    exact ⟨m, v, by rw [hh _ (by omega) (by omega), h3]; exact q1, by rw [h3]; exact hL q2⟩
  · rw [h3] at hs
    have := hD.os c s hc hs
    refine ⟨this.1, by omega, by rw [ho _ (by omega)]; exact this.2.2.1, ?_⟩
    rw [hh _ this.1 (by omega), this.2.2.2]
    unfold stE
    rw [h4, h5, h6]
  · rw [h4, h5, h6]; exact hD.rg
theorem RSx.shf {w : Nat} {C : Nat → Nat → Int} {A : Nat → Int → Int} {V : Nat → Value} {h : Nat → va_E} {nx : Nat} {I : Nat → Int} {F : Nat → Int → Int} {ca : Nat → Nat} {sa : Nat → Nat → Nat} {own : Nat → Nat} {d : Int} {C' : Nat → Nat → Int} {A' : Nat → Int → Int} {V' : Nat → Value} {h' : Nat → va_E} {nx' : Nat} {F' : Nat → Int → Int} {own' : Nat → Nat} (hS : RSx w C A V h nx I F ca sa own) (hd : 0 ≤ d ∧ d ≤ 7) (hC : ∀ q, q ≠ (241 + 2 * d.toNat) → C' q = C q) (hA : ∀ q, q ≠ (241 + 2 * d.toNat) + 1 → A' q = A q) (hV : ∀ q, q ≠ (241 + 2 * d.toNat) → V' q = V q) (hn : nx ≤ nx') (hh : ∀ q, 290 ≤ q → q < nx → h' q = h q) (ho : ∀ q, q < nx → own' q = own q) (hF : ∀ k, k < 35 → F' k = F k) (hF2 : ∀ e, 0 ≤ e → e ≤ 7 → ¬ e = d → F' 35 e = F 35 e ∧ F' 36 e = F 36 e ∧ F' 37 e = F 37 e ∧ F' 38 e = F 38 e ∧ F' 39 e = F 39 e ∧ ∀ i, 0 ≤ i → i < 60 → F' 40 (60 * e + i) = F 40 (60 * e + i)) (hN : RSd h' nx' C' A' V' F' own' d) : RSx w C' A' V' h' nx' I F' ca sa own' := by
  have nx0 := hS.nx
  refine ⟨hS.dy.grow hn (fun q q1 q2 => hh q (by omega) q2) ho (by rw [hC _ (by omega)]) (hV _ (by omega)) (hF _ (by decide)) (hF _ (by decide)) (hF _ (by decide)) (hF _ (by decide)), hS.ca.cong (fun q hq => hC q (by omega)) (fun q hq => hA q (by omega)) rfl rfl (hF _ (by decide)) (hF _ (by decide)) (hF _ (by decide)) (hF _ (by decide)) (hF _ (by decide)) (hF _ (by decide)) (hF _ (by decide)) (hF _ (by decide)) (hF _ (by decide)) (hF _ (by decide)), fun e e1 e2 => ?_, hS.vi.cong (hC _ (by omega)) (hA _ (by omega)) (hA _ (by omega)) (hA _ (by omega)) (hA _ (by omega)) rfl (hF _ (by decide)), by rw [hF _ (by decide)]; exact hS.c7, by rw [hA _ (by omega)]; exact hS.k7, by rw [hF _ (by decide)]; exact hS.h3, by omega, ?_⟩
  · by_cases q : e = d
    · rw [q]; exact hN
    · obtain ⟨f5, f6, f7, f8, f9, f0⟩ := hF2 e e1 e2 q
      exact (hS.sh e e1 e2).cong (hC _ (by omega)) (hA _ (by omega)) (hV _ (by omega)) hn (fun x x1 x2 x3 => ⟨by rw [ho x x2]; exact x3, hh x (by omega) x2⟩) f5 f6 f7 f8 f9 f0
  · rw [hh 290 (by omega) (by omega)]
    exact hS.out
theorem RSx.hup {w : Nat} {C : Nat → Nat → Int} {A : Nat → Int → Int} {V : Nat → Value} {h : Nat → va_E} {nx : Nat} {I : Nat → Int} {F : Nat → Int → Int} {ca : Nat → Nat} {sa : Nat → Nat → Nat} {own : Nat → Nat} {e : va_E} (hS : RSx w C A V h nx I F ca sa own) : RSx w C A V (va_up h nx e) (nx + 1) I F ca sa own := by
  have nx0 := hS.nx
  have hh : ∀ q, q < nx → va_up h nx e q = h q := fun q hq => va_up_ne _ _ (by omega)
  exact ⟨hS.dy.grow (by omega) (fun q _ q2 => hh q q2) (fun _ _ => rfl) rfl rfl rfl rfl rfl rfl, hS.ca, hS.sh.cong (fun _ _ _ => rfl) (fun _ _ _ => rfl) (fun _ _ _ => rfl) (by omega) (fun q _ q2 q3 => ⟨q3, hh q q2⟩) rfl rfl rfl rfl rfl rfl, hS.vi, hS.c7, hS.k7, hS.h3, by omega, by rw [hh 290 (by omega)]; exact hS.out⟩
theorem RSx.k35 {w : Nat} {C : Nat → Nat → Int} {A : Nat → Int → Int} {V : Nat → Value} {h : Nat → va_E} {nx : Nat} {I : Nat → Int} {F : Nat → Int → Int} {ca : Nat → Nat} {sa : Nat → Nat → Nat} {own : Nat → Nat} (hS : RSx w C A V h nx I F ca sa own) : ∀ j, 0 ≤ j → j ≤ 7 → 0 ≤ F 35 j ∧ F 35 j ≤ 4 := fun j j1 j2 => by have := (hS.sh j j1 j2).kk; omega
theorem RSx.k39 {w : Nat} {C : Nat → Nat → Int} {A : Nat → Int → Int} {V : Nat → Value} {h : Nat → va_E} {nx : Nat} {I : Nat → Int} {F : Nat → Int → Int} {ca : Nat → Nat} {sa : Nat → Nat → Nat} {own : Nat → Nat} (hS : RSx w C A V h nx I F ca sa own) : ∀ j, 0 ≤ j → j ≤ 7 → 0 ≤ F 39 j ∧ F 39 j ≤ 60 := fun j j1 j2 => (hS.sh j j1 j2).z39
theorem RSx.kC {w : Nat} {C : Nat → Nat → Int} {A : Nat → Int → Int} {V : Nat → Value} {h : Nat → va_E} {nx : Nat} {I : Nat → Int} {F : Nat → Int → Int} {ca : Nat → Nat} {sa : Nat → Nat → Nat} {own : Nat → Nat} (hS : RSx w C A V h nx I F ca sa own) : ∀ r : Nat, r < 8 → 0 ≤ C (241 + 2 * r) 1 ∧ C (241 + 2 * r) 1 ≤ 4 := fun r hr => by
  have h1 := (hS.sh r (by omega) (by omega)).k
  have h2 := (hS.sh r (by omega) (by omega)).kk
  rw [Int.toNat_natCast] at h1
  omega
theorem RSx.kZ {w : Nat} {C : Nat → Nat → Int} {A : Nat → Int → Int} {V : Nat → Value} {h : Nat → va_E} {nx : Nat} {I : Nat → Int} {F : Nat → Int → Int} {ca : Nat → Nat} {sa : Nat → Nat → Nat} {own : Nat → Nat} (hS : RSx w C A V h nx I F ca sa own) : ∀ r : Nat, r < 8 → 0 ≤ C (241 + 2 * r) 2 ∧ C (241 + 2 * r) 2 ≤ 60 := fun r hr => by
  have h1 := (hS.sh r (by omega) (by omega)).z
  rw [Int.toNat_natCast] at h1
  exact h1
theorem RSx.kR {w : Nat} {C : Nat → Nat → Int} {A : Nat → Int → Int} {V : Nat → Value} {h : Nat → va_E} {nx : Nat} {I : Nat → Int} {F : Nat → Int → Int} {ca : Nat → Nat} {sa : Nat → Nat → Nat} {own : Nat → Nat} (hS : RSx w C A V h nx I F ca sa own) : ∀ r : Nat, r < 8 → ∀ x, 0 ≤ x → x < C (241 + 2 * r) 2 → -32768 ≤ A (241 + 2 * r + 1) x ∧ A (241 + 2 * r + 1) x < 32768 := fun r hr => by
  have h1 := (hS.sh r (by omega) (by omega)).r
  rw [Int.toNat_natCast] at h1
  exact h1
theorem RSx.mk {w : Nat} {C : Nat → Nat → Int} {A : Nat → Int → Int} {V : Nat → Value} {h : Nat → va_E} {nx : Nat} {I : Nat → Int} {F : Nat → Int → Int} {ca : Nat → Nat} {sa : Nat → Nat → Nat} {own : Nat → Nat} {d x n : Int} (hS : RSx w C A V h nx I F ca sa own) (hd : 0 ≤ d ∧ d ≤ 7) (hx : 3 ≤ x ∧ x ≤ 4) (hn : 0 ≤ n ∧ n ≤ 60) : RSx w (cH C (241 + 2 * d.toNat) x n) (va_up A ((241 + 2 * d.toNat) + 1) (fillA 0 n.toNat 0 (A ((241 + 2 * d.toNat) + 1)))) (va_up V (241 + 2 * d.toNat) .null) h nx I (va_up (va_up (va_up F 35 (fu (F 35) d x)) 39 (fu (F 39) d n)) 40 (fillA 0 60 (60 * d) (F 40))) ca sa own := by
  refine hS.shf hd (fun q hq => cH_ne hq) (fun q hq => va_up_ne _ _ hq) (fun q hq => va_up_ne _ _ hq) (Nat.le_refl _) (fun _ _ _ => rfl) (fun _ _ => rfl) (fun k hk => by rw [va_up_ne _ _ (by omega), va_up_ne _ _ (by omega), va_up_ne _ _ (by omega)]) (fun e e1 e2 q => ⟨fu_n q, rfl, rfl, rfl, fu_n q, fun i i1 i2 => by show (fillA 0 60 (60 * d) (F 40)) (60 * e + i) = _; rw [fillA_at, if_neg (by omega)]⟩) ⟨cH_1 _ _ _ _ |>.trans (fu_s _ _ _).symm, ?_, ?_, ?_, ?_, ?_, ?_, ?_⟩
  · show fu (F 35) d x d = 0 ∨ fu (F 35) d x d = 1 ∨ fu (F 35) d x d = 3 ∨ fu (F 35) d x d = 4
    rw [fu_s]
    omega
  · rw [cH_2]; omega
  · show 0 ≤ fu (F 39) d n d ∧ fu (F 39) d n d ≤ 60
    rw [fu_s]
    omega
  · intro _
    refine ⟨(cH_2 _ _ _ _).trans (fu_s _ _ _).symm, fun i i1 i2 => ?_⟩
    have i2 : i < fu (F 39) d n d := i2
    rw [fu_s] at i2
    show _ = fillA 0 60 (60 * d) (F 40) (60 * d + i)
    rw [va_up_self, fillA_at, fillA_at, if_pos (by omega), if_pos (by omega)]
  · intro i i1 i2
    rw [cH_2] at i2
    rw [va_up_self, fillA_at, if_pos (by omega)]
    decide
  · intro q
    have q : fu (F 35) d x d = 1 := q
    rw [fu_s] at q
    omega
  · intro _; exact va_up_self _ _ _
theorem RSx.kn {w : Nat} {C : Nat → Nat → Int} {A : Nat → Int → Int} {V : Nat → Value} {h : Nat → va_E} {nx : Nat} {I : Nat → Int} {F : Nat → Int → Int} {ca : Nat → Nat} {sa : Nat → Nat → Nat} {own : Nat → Nat} {d : Int} (hS : RSx w C A V h nx I F ca sa own) (hd : 0 ≤ d ∧ d ≤ 7)  : RSx w (cH C (241 + 2 * d.toNat) 0 0) A (va_up V (241 + 2 * d.toNat) .null) h nx I (va_up (va_up (va_up F 35 (fu (F 35) d 0)) 40 (fillA 0 60 (60 * d) (F 40))) 39 (fu (F 39) d (I 21))) ca sa own := by
  have t2 := hS.ca.t2
  refine hS.shf hd (fun q hq => cH_ne hq) (fun _ _ => rfl) (fun q hq => va_up_ne _ _ hq) (Nat.le_refl _) (fun _ _ _ => rfl) (fun _ _ => rfl) (fun k hk => by rw [va_up_ne _ _ (by omega), va_up_ne _ _ (by omega), va_up_ne _ _ (by omega)]) (fun e e1 e2 q => ⟨fu_n q, rfl, rfl, rfl, fu_n q, fun i i1 i2 => by show (fillA 0 60 (60 * d) (F 40)) (60 * e + i) = _; rw [fillA_at, if_neg (by omega)]⟩) ⟨cH_1 _ _ _ _ |>.trans (fu_s _ _ _).symm, ?_, ?_, ?_, ?_, ?_, ?_, ?_⟩
  · show fu (F 35) d 0 d = 0 ∨ fu (F 35) d 0 d = 1 ∨ fu (F 35) d 0 d = 3 ∨ fu (F 35) d 0 d = 4
    rw [fu_s]
    omega
  · rw [cH_2]; omega
  · show 0 ≤ fu (F 39) d (I 21) d ∧ fu (F 39) d (I 21) d ≤ 60
    rw [fu_s]
    omega
  · intro q
    have q : 3 ≤ fu (F 35) d 0 d := q
    rw [fu_s] at q
    omega
  · intro i i1 i2
    rw [cH_2] at i2
    omega
  · intro q
    have q : fu (F 35) d 0 d = 1 := q
    rw [fu_s] at q
    omega
  · intro _; exact va_up_self _ _ _
theorem RSx.ks {w : Nat} {C : Nat → Nat → Int} {A : Nat → Int → Int} {V : Nat → Value} {h : Nat → va_E} {nx : Nat} {I : Nat → Int} {F : Nat → Int → Int} {ca : Nat → Nat} {sa : Nat → Nat → Nat} {own : Nat → Nat} {d : Int} {c s : Nat} (hS : RSx w C A V h nx I F ca sa own) (hd : 0 ≤ d ∧ d ≤ 7) (h4 : 0 ≤ F 4 (12 * (c : Int) + (s : Int)) ∧ F 4 (12 * (c : Int) + (s : Int)) ≤ 5) : RSx w (cH C (241 + 2 * d.toNat) 1 0) A (va_up V (241 + 2 * d.toNat) (.ref nx)) (va_up h nx (stE F (12 * (c : Int) + (s : Int)))) (nx + 1) I (va_up (va_up (va_up (va_up (va_up (va_up F 35 (fu (F 35) d 1)) 40 (fillA 0 60 (60 * d) (F 40))) 36 (fu (F 36) d (F 4 (12 * (c : Int) + (s : Int))))) 37 (fu (F 37) d (F 5 (12 * (c : Int) + (s : Int))))) 38 (fu (F 38) d (F 6 (12 * (c : Int) + (s : Int))))) 39 (fu (F 39) d (I 21))) ca sa (va_up own nx 300) := by
  have t2 := hS.ca.t2
  have nx0 := hS.nx
  refine hS.shf hd (fun q hq => cH_ne hq) (fun _ _ => rfl) (fun q hq => va_up_ne _ _ hq) (by omega) (fun q _ q2 => va_up_ne _ _ (by omega)) (fun q q2 => va_up_ne _ _ (by omega)) (fun k hk => by rw [va_up_ne _ _ (by omega), va_up_ne _ _ (by omega), va_up_ne _ _ (by omega), va_up_ne _ _ (by omega), va_up_ne _ _ (by omega), va_up_ne _ _ (by omega)]) (fun e e1 e2 q => ⟨fu_n q, fu_n q, fu_n q, fu_n q, fu_n q, fun i i1 i2 => by show (fillA 0 60 (60 * d) (F 40)) (60 * e + i) = _; rw [fillA_at, if_neg (by omega)]⟩) ⟨cH_1 _ _ _ _ |>.trans (fu_s _ _ _).symm, ?_, ?_, ?_, ?_, ?_, ?_, ?_⟩
  · show fu (F 35) d 1 d = 0 ∨ fu (F 35) d 1 d = 1 ∨ fu (F 35) d 1 d = 3 ∨ fu (F 35) d 1 d = 4
    rw [fu_s]
    omega
  · rw [cH_2]; omega
  · show 0 ≤ fu (F 39) d (I 21) d ∧ fu (F 39) d (I 21) d ≤ 60
    rw [fu_s]
    omega
  · intro q
    have q : 3 ≤ fu (F 35) d 1 d := q
    rw [fu_s] at q
    omega
  · intro i i1 i2
    rw [cH_2] at i2
    omega
  · intro _
    refine ⟨⟨nx, va_up_self _ _ _, nx0, by omega, va_up_self _ _ _, ?_⟩, ?_⟩
    · rw [va_up_self]
      show stE F (12 * (c : Int) + (s : Int)) = .inr (5, [.int (iI (fu (F 36) d (F 4 (12 * (c : Int) + (s : Int))) d)), .int (iI (fu (F 38) d (F 6 (12 * (c : Int) + (s : Int))) d)), .int (iI (fu (F 37) d (F 5 (12 * (c : Int) + (s : Int))) d))])
      rw [fu_s, fu_s, fu_s]
      rfl
    · show 0 ≤ fu (F 36) d (F 4 (12 * (c : Int) + (s : Int))) d ∧ fu (F 36) d (F 4 (12 * (c : Int) + (s : Int))) d ≤ 5
      rw [fu_s]; exact h4
  · intro q
    exact absurd (fu_s _ _ _) q
theorem RSx.kb {w : Nat} {C : Nat → Nat → Int} {A : Nat → Int → Int} {V : Nat → Value} {h : Nat → va_E} {nx : Nat} {I : Nat → Int} {F : Nat → Int → Int} {ca : Nat → Nat} {sa : Nat → Nat → Nat} {own : Nat → Nat} {d k : Int} (hS : RSx w C A V h nx I F ca sa own) (hd : 0 ≤ d ∧ d ≤ 7) (hk : 0 ≤ k ∧ k < I 21) : RSx w (cH C (241 + 2 * d.toNat) 3 (w : Int)) (va_up A ((241 + 2 * d.toNat) + 1) (cpB (fun i => F 23 (40 * k + i)) w 0 (fillA 0 ((w : Int)).toNat 0 (A ((241 + 2 * d.toNat) + 1))))) (va_up V (241 + 2 * d.toNat) .null) h nx I (va_up (va_up (va_up (va_up F 35 (fu (F 35) d 3)) 40 (fillA 0 60 (60 * d) (F 40))) 39 (fu (F 39) d (I 1))) 40 (cpA (fun i => F 23 (40 * k + i)) (60 * d) (I 1).toNat 0 (fillA 0 60 (60 * d) (F 40)))) ca sa own := by
  have t2 := hS.ca.t2
  have w1 := hS.ca.w1
  have w2 := hS.ca.w2
  refine hS.shf hd (fun q hq => cH_ne hq) (fun q hq => va_up_ne _ _ hq) (fun q hq => va_up_ne _ _ hq) (Nat.le_refl _) (fun _ _ _ => rfl) (fun _ _ => rfl) (fun k hk => by rw [va_up_ne _ _ (by omega), va_up_ne _ _ (by omega), va_up_ne _ _ (by omega), va_up_ne _ _ (by omega)]) (fun e e1 e2 q => ⟨fu_n q, rfl, rfl, rfl, fu_n q, fun i i1 i2 => by show (cpA (fun i => F 23 (40 * k + i)) (60 * d) (I 1).toNat 0 (fillA 0 60 (60 * d) (F 40))) (60 * e + i) = _; rw [cpA_at, if_neg (by omega), fillA_at, if_neg (by omega)]⟩) ⟨cH_1 _ _ _ _ |>.trans (fu_s _ _ _).symm, ?_, ?_, ?_, ?_, ?_, ?_, ?_⟩
  · show fu (F 35) d 3 d = 0 ∨ fu (F 35) d 3 d = 1 ∨ fu (F 35) d 3 d = 3 ∨ fu (F 35) d 3 d = 4
    rw [fu_s]
    omega
  · rw [cH_2]; omega
  · show 0 ≤ fu (F 39) d (I 1) d ∧ fu (F 39) d (I 1) d ≤ 60
    rw [fu_s]
    omega
  · intro _
    refine ⟨(cH_2 _ _ _ _).trans (hS.ca.w1.symm.trans (fu_s _ _ _).symm), fun i i1 i2 => ?_⟩
    have i2 : i < fu (F 39) d (I 1) d := i2
    rw [fu_s] at i2
    show _ = cpA (fun i => F 23 (40 * k + i)) (60 * d) (I 1).toNat 0 (fillA 0 60 (60 * d) (F 40)) (60 * d + i)
    rw [va_up_self, cpB_at, cpA_at, if_pos (by omega), if_pos (by omega), show 60 * d + i - 60 * d = i by omega]
  · intro i i1 i2
    rw [cH_2] at i2
    rw [va_up_self, cpB_at, if_pos (by omega)]
    have := hS.ca.b23 (40 * k + i) (by omega) (by omega)
    show -32768 ≤ F 23 (40 * k + i) ∧ F 23 (40 * k + i) < 32768
    omega
  · intro q
    have q : fu (F 35) d 3 d = 1 := q
    rw [fu_s] at q
    omega
  · intro _; exact va_up_self _ _ _
theorem RSx.km {w : Nat} {C : Nat → Nat → Int} {A : Nat → Int → Int} {V : Nat → Value} {h : Nat → va_E} {nx : Nat} {I : Nat → Int} {F : Nat → Int → Int} {ca : Nat → Nat} {sa : Nat → Nat → Nat} {own : Nat → Nat} {d : Int} (hS : RSx w C A V h nx I F ca sa own) (hd : 0 ≤ d ∧ d ≤ 7)  : RSx w (cH C (241 + 2 * d.toNat) 4 (I 21)) (va_up A ((241 + 2 * d.toNat) + 1) (cpB (F 26) (I 21).toNat 0 (fillA 0 (I 21).toNat 0 (A ((241 + 2 * d.toNat) + 1))))) (va_up V (241 + 2 * d.toNat) .null) h nx I (va_up (va_up (va_up (va_up F 35 (fu (F 35) d 4)) 40 (fillA 0 60 (60 * d) (F 40))) 39 (fu (F 39) d (I 21))) 40 (cpA (fun i => F 26 i) (60 * d) (I 21).toNat 0 (fillA 0 60 (60 * d) (F 40)))) ca sa own := by
  have t2 := hS.ca.t2
  have w1 := hS.ca.w1
  have w2 := hS.ca.w2
  refine hS.shf hd (fun q hq => cH_ne hq) (fun q hq => va_up_ne _ _ hq) (fun q hq => va_up_ne _ _ hq) (Nat.le_refl _) (fun _ _ _ => rfl) (fun _ _ => rfl) (fun k hk => by rw [va_up_ne _ _ (by omega), va_up_ne _ _ (by omega), va_up_ne _ _ (by omega), va_up_ne _ _ (by omega)]) (fun e e1 e2 q => ⟨fu_n q, rfl, rfl, rfl, fu_n q, fun i i1 i2 => by show (cpA (fun i => F 26 i) (60 * d) (I 21).toNat 0 (fillA 0 60 (60 * d) (F 40))) (60 * e + i) = _; rw [cpA_at, if_neg (by omega), fillA_at, if_neg (by omega)]⟩) ⟨cH_1 _ _ _ _ |>.trans (fu_s _ _ _).symm, ?_, ?_, ?_, ?_, ?_, ?_, ?_⟩
  · show fu (F 35) d 4 d = 0 ∨ fu (F 35) d 4 d = 1 ∨ fu (F 35) d 4 d = 3 ∨ fu (F 35) d 4 d = 4
    rw [fu_s]
    omega
  · rw [cH_2]; omega
  · show 0 ≤ fu (F 39) d (I 21) d ∧ fu (F 39) d (I 21) d ≤ 60
    rw [fu_s]
    omega
  · intro _
    refine ⟨(cH_2 _ _ _ _).trans ((fu_s _ _ _).symm), fun i i1 i2 => ?_⟩
    have i2 : i < fu (F 39) d (I 21) d := i2
    rw [fu_s] at i2
    show _ = cpA (fun i => F 26 i) (60 * d) (I 21).toNat 0 (fillA 0 60 (60 * d) (F 40)) (60 * d + i)
    rw [va_up_self, cpB_at, cpA_at, if_pos (by omega), if_pos (by omega), show 60 * d + i - 60 * d = i by omega]
  · intro i i1 i2
    rw [cH_2] at i2
    rw [va_up_self, cpB_at, if_pos (by omega)]
    have := hS.ca.b26 i (by omega) (by omega)
    omega
  · intro q
    have q : fu (F 35) d 4 d = 1 := q
    rw [fu_s] at q
    omega
  · intro _; exact va_up_self _ _ _
