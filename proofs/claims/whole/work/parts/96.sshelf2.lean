/-! CLASS AND REFERENCE: calls of shelves (by p96.py) -/
theorem s_make {l0 : Launch} {g : Gw} {w : Nat} {d x n : Int} (hd : inR d) (hx : inR x) (hn : inR n) : SIM l0 g w mX8_make mX9_make [.int (iI d), .int (iI x), .int (iI n)] := sim_of fun C A V h nx I F ca sa own hS => by
  by_cases b : (0 ≤ d ∧ d ≤ 7) ∧ (3 ≤ x ∧ x ≤ 4) ∧ (0 ≤ n ∧ n ≤ 60)
  · exact sim_md (by decide) (by decide) (by decide) (by decide) (k_X8_make1 b.1 b.2.1 b.2.2) (k_X9_make1 b.1 b.2.1 b.2.2) (hS.mk b.1 b.2.1 b.2.2)
  · exact sim_md (by decide) (by decide) (by decide) (by decide) (k_X8_make0 hd hx hn b) (k_X9_make0 hd hx hn b) hS
theorem s_keep {l0 : Launch} {g : Gw} {w : Nat} {d x k n : Int} (hd : inR d) (hx : inR x) (hk : inR k) (hn : inR n) : SIM l0 g w mX8_keep mX9_keep [.int (iI d), .int (iI x), .int (iI k), .int (iI n)] := sim_of fun C A V h nx I F ca sa own hS => by
  have n2 := hS.dy.n2
  have t2 := hS.ca.t2
  by_cases b : (0 ≤ d ∧ d ≤ 7) ∧ (x = 0 ∨ x = 1 ∨ x = 3 ∨ x = 4)
  · obtain ⟨bd, bx⟩ := b
    rcases bx with rfl | rfl | rfl | rfl
    · exact sim_md (by decide) (by decide) (by decide) (by decide) (k_X8_keepN bd) (k_X9_keepN bd hS.ca.i1 hS.ca.t2) (hS.kn bd)
    · by_cases bk : 0 ≤ k ∧ k < I 2
      · obtain ⟨c, rfl⟩ := Int.eq_ofNat_of_zero_le bk.1
        by_cases bn : 0 ≤ n ∧ n < F 3 (c : Int)
        · obtain ⟨s, rfl⟩ := Int.eq_ofNat_of_zero_le bn.1
          have h4 := ((hS.dy.wf (c : Int) bk.1 bk.2).2 (s : Int) bn.1 bn.2).1
          have h8 := k_X8_keepS2 (l0 := l0) (g := g) (w := w) (A := A) hS.dm bd hS.nx bk.2 bn.2
          have nx0 := hS.nx
          rw [mp_uph (by omega)] at h8
          exact sim_md (by decide) (by decide) (by decide) (by decide) h8 (k_X9_keepS bd bk bn (hS.h3 _ bk.1 (by omega)) n2 hS.ca.i1 hS.ca.t2) (hS.ks bd h4)
        · exact sim_md (by decide) (by decide) (by decide) (by decide) (k_X8_keepS1 hS.dm bd bk.2 hn bn) (k_X9_keep0 hd hx hk hn n2 t2 hS.h3 (by omega)) hS
      · exact sim_md (by decide) (by decide) (by decide) (by decide) (k_X8_keepS0 hS.dm bd hk bk) (k_X9_keep0 hd hx hk hn n2 t2 hS.h3 (by omega)) hS
    · by_cases bk : 0 ≤ k ∧ k < I 21
      · exact sim_md (by decide) (by decide) (by decide) (by decide) (k_X8_keepB1 hS.ca bd bk) (k_X9_keepB bd bk hS.ca.i1 hS.ca.t2) (hS.kb bd bk)
      · exact sim_md (by decide) (by decide) (by decide) (by decide) (k_X8_keepB0 hS.ca bd hk bk) (k_X9_keep0 hd hx hk hn n2 t2 hS.h3 (by omega)) hS
    · exact sim_md (by decide) (by decide) (by decide) (by decide) (k_X8_keepM hS.ca bd) (k_X9_keepM bd hS.ca.i1 hS.ca.t2) (hS.km bd)
  · exact sim_md (by decide) (by decide) (by decide) (by decide) (k_X8_keepZ hd hx (by omega)) (k_X9_keep0 hd hx hk hn n2 t2 hS.h3 (by omega)) hS
theorem RSx.cy {w : Nat} {C : Nat → Nat → Int} {A : Nat → Int → Int} {V : Nat → Value} {h : Nat → va_E} {nx : Nat} {I : Nat → Int} {F : Nat → Int → Int} {ca : Nat → Nat} {sa : Nat → Nat → Nat} {own : Nat → Nat} {d i e j n : Int} (hS : RSx w C A V h nx I F ca sa own) (hok : (0 ≤ d ∧ d ≤ 7) ∧ (0 ≤ e ∧ e ≤ 7) ∧ 3 ≤ F 35 d ∧ F 35 d = F 35 e ∧ 0 ≤ n ∧ 0 ≤ i ∧ 0 ≤ j ∧ i ≤ F 39 d - n ∧ j ≤ F 39 e - n) : RSx w C (va_up A ((241 + 2 * e.toNat) + 1) (cpyF (A ((241 + 2 * d.toNat) + 1)) (A ((241 + 2 * e.toNat) + 1)) i j n)) V h nx I (va_up (va_up F 41 (cpA (fun k => F 40 (60 * d + i + k)) 0 n.toNat 0 (F 41))) 40 (cpA (cpA (fun k => F 40 (60 * d + i + k)) 0 n.toNat 0 (F 41)) (60 * e + j) n.toNat 0 (F 40))) ca sa own := by
  have sd := hS.sh d hok.1.1 hok.1.2
  have se := hS.sh e hok.2.1.1 hok.2.1.2
  have ed := sd.e hok.2.2.1
  have ee := se.e (by omega)
  have zd := sd.z39
  have ze := se.z39
  refine hS.shf (d := e) hok.2.1 (fun _ _ => rfl) (fun q hq => va_up_ne _ _ hq) (fun _ _ => rfl) (Nat.le_refl _) (fun _ _ _ => rfl) (fun _ _ => rfl) (fun k hk => by rw [va_up_ne _ _ (by omega), va_up_ne _ _ (by omega)]) (fun e' e1 e2 q => ⟨rfl, rfl, rfl, rfl, rfl, fun x x1 x2 => ?_⟩) ⟨se.k, se.kk, se.z, se.z39, fun _ => ⟨ee.1, fun x x1 x2 => ?_⟩, fun x x1 x2 => ?_, se.s, se.n⟩
  · show cpA (cpA (fun k => F 40 (60 * d + i + k)) 0 n.toNat 0 (F 41)) (60 * e + j) n.toNat 0 (F 40) (60 * e' + x) = _
    rw [cpA_at, if_neg (by omega)]
  · have x2 : x < F 39 e := x2
    show _ = cpA (cpA (fun k => F 40 (60 * d + i + k)) 0 n.toNat 0 (F 41)) (60 * e + j) n.toNat 0 (F 40) (60 * e + x)
    rw [va_up_self, cpA_at]
    unfold cpyF
    by_cases q : j ≤ x ∧ x < j + n
    · rw [if_pos q, if_pos (by omega), cpA_at, if_pos (by omega), ed.2 _ (by omega) (by omega)]
      congr 1
      omega
    · rw [if_neg q, if_neg (by omega)]
      exact ee.2 x x1 x2
  · rw [va_up_self]
    unfold cpyF
    split
    · exact sd.r _ (by omega) (by rw [ed.1]; omega)
    · exact se.r x x1 x2
theorem s_copy {l0 : Launch} {g : Gw} {w : Nat} {d i e j n : Int} (hd : inR d) (hi : inR i) (he : inR e) (hj : inR j) (hn : inR n) : SIM l0 g w mX8_copy mX9_copy [.int (iI d), .int (iI i), .int (iI e), .int (iI j), .int (iI n)] := sim_of fun C A V h nx I F ca sa own hS => by
  by_cases b : (0 ≤ d ∧ d ≤ 7) ∧ (0 ≤ e ∧ e ≤ 7) ∧ 3 ≤ F 35 d ∧ F 35 d = F 35 e ∧ 0 ≤ n ∧ 0 ≤ i ∧ 0 ≤ j ∧ i ≤ F 39 d - n ∧ j ≤ F 39 e - n
  · have sd := hS.sh d b.1.1 b.1.2
    have se := hS.sh e b.2.1.1 b.2.1.2
    have kd := sd.k
    have ke := se.k
    have kkd := sd.kk
    have ed := (sd.e b.2.2.1).1
    have ee := (se.e (by omega)).1
    exact sim_md (by decide) (by decide) (by decide) (by decide) (k_X8_copy1 hS.kC hS.kZ hS.kR (by omega)) (k_X9_copy1 hS.k35 hS.k39 b) (hS.cy b)
  · by_cases c : (0 ≤ d ∧ d ≤ 7) ∧ (0 ≤ e ∧ e ≤ 7)
    · have sd := hS.sh d c.1.1 c.1.2
      have se := hS.sh e c.2.1 c.2.2
      have kd := sd.k
      have ke := se.k
      have kkd := sd.kk
      have kke := se.kk
      have ed := fun z => (sd.e z).1
      have ee := fun z => (se.e z).1
      have h8 := k_X8_copy0 (l0 := l0) (g := g) (w := w) (C := C) (A := A) (V := V) (h := mp 257 h I F) (nx := nx) hd hi he hj hn hS.kC hS.kZ (fun z => b (by have z3 : 3 ≤ F 35 d := (by omega); have := ed z3; have := ee (by omega); omega))
      have h9 := k_X9_copy0 (l0 := l0) (g := g) (mo := 257) (h0 := cp w C A V h) (nx := nx) (I := I) hd he hi hj hn hS.k35 hS.k39 b
      rw [if_pos c] at h8 h9
      rw [kd, ke] at h8
      refine sim_md (by decide) (by decide) (by decide) (by decide) h8 (md_ans ?_ h9) hS
      (repeat' split) <;> first | rfl | omega
    · have h8 := k_X8_copy0 (l0 := l0) (g := g) (w := w) (C := C) (A := A) (V := V) (h := mp 257 h I F) (nx := nx) hd hi he hj hn hS.kC hS.kZ (fun z => c ⟨z.1, z.2.1⟩)
      have h9 := k_X9_copy0 (l0 := l0) (g := g) (mo := 257) (h0 := cp w C A V h) (nx := nx) (I := I) hd he hi hj hn hS.k35 hS.k39 b
      rw [if_neg c] at h8 h9
      exact sim_md (by decide) (by decide) (by decide) (by decide) h8 h9 hS
theorem RSx.st {w : Nat} {C : Nat → Nat → Int} {A : Nat → Int → Int} {V : Nat → Value} {h : Nat → va_E} {nx : Nat} {I : Nat → Int} {F : Nat → Int → Int} {ca : Nat → Nat} {sa : Nat → Nat → Nat} {own : Nat → Nat} {d : Int} (hS : RSx w C A V h nx I F ca sa own) (hd : 0 ≤ d ∧ d ≤ 7) (h1 : F 35 d = 1) : ∃ q : Nat, V (241 + 2 * d.toNat) = .ref q ∧ 291 ≤ q ∧ q < nx ∧ ((cp w C A V (mp 257 h I F), nx) : Sg).1 q = .inr (5, [.int (iI (F 36 d)), .int (iI (F 38 d)), .int (iI (F 37 d))]) ∧ 0 ≤ F 36 d ∧ F 36 d ≤ 5 := by
  obtain ⟨⟨q, q1, q2, q3, q4, q5⟩, q6⟩ := (hS.sh d hd.1 hd.2).s h1
  refine ⟨q, q1, q2, q3, ?_, q6⟩
  show cp w C A V (mp 257 h I F) q = _
  rw [cp_ge (by omega), mp_out (.inr (by omega))]
  exact q5
theorem RSx.inC {w : Nat} {C : Nat → Nat → Int} {A : Nat → Int → Int} {V : Nat → Value} {h : Nat → va_E} {nx : Nat} {I : Nat → Int} {F : Nat → Int → Int} {ca : Nat → Nat} {sa : Nat → Nat → Nat} {own : Nat → Nat} {d : Int} (hS : RSx w C A V h nx I F ca sa own) : 0 ≤ d ∧ d ≤ 7 → inR (C (241 + 2 * d.toNat) 1) := fun b => by
  have h1 := (hS.sh d b.1 b.2).k
  have h2 := (hS.sh d b.1 b.2).kk
  exact ⟨by omega, by omega⟩
theorem RSx.why {w : Nat} {C : Nat → Nat → Int} {A : Nat → Int → Int} {V : Nat → Value} {h : Nat → va_E} {nx : Nat} {I : Nat → Int} {F : Nat → Int → Int} {ca : Nat → Nat} {sa : Nat → Nat → Nat} {own : Nat → Nat} {d : Int} (hS : RSx w C A V h nx I F ca sa own) (b : ¬ ((0 ≤ d ∧ d ≤ 7) ∧ F 35 d = 1)) : (if 0 ≤ d ∧ d ≤ 7 then (if C (241 + 2 * d.toNat) 1 = 0 then -11 else -12) else -1) = lsF (F 35 d) d ∧ ¬ lsF (F 35 d) d = 0 ∧ (0 ≤ d ∧ d ≤ 7 → V (241 + 2 * d.toNat) = .null) := by
  unfold lsF
  by_cases c : 0 ≤ d ∧ d ≤ 7
  · have h1 := (hS.sh d c.1 c.2).k
    have h2 := (hS.sh d c.1 c.2).n (fun z => b ⟨c, z⟩)
    rw [if_pos c, if_pos c, h1]
    refine ⟨?_, ?_, fun _ => h2⟩
    · (repeat' split) <;> first | rfl | omega
    · (repeat' split) <;> omega
  · rw [if_neg c, if_neg c]
    exact ⟨rfl, by decide, fun z => absurd z c⟩
theorem s_weight {l0 : Launch} {g : Gw} {w : Nat} {d : Int} (hd : inR d) : SIM l0 g w mX8_weight mX9_weight [.int (iI d)] := sim_of fun C A V h nx I F ca sa own hS => by
  by_cases b : (0 ≤ d ∧ d ≤ 7) ∧ F 35 d = 1
  · obtain ⟨q, q1, q2, q3, q4, q5⟩ := hS.st b.1 b.2
    exact sim_md (by decide) (by decide) (by decide) (by decide) (k_X8_weight1 b.1 q1 q4 q5) (k_X9_weight1 hd hS.k35 q5 (by unfold lsF; rw [if_pos b.1, b.2]; rfl)) hS
  · obtain ⟨y1, y2, y3⟩ := hS.why b
    exact sim_md (by decide) (by decide) (by decide) (by decide) (md_ans y1 (k_X8_weight0 hd hS.inC y3)) (k_X9_weight0 hd hS.k35 y2) hS
theorem MH.mono {l0 : Launch} {g : Gw} {d mc ms : Nat} {μ : Md} {hh : List (Nat × Nat × Nat × Nat)} {σ : Sg} {vs : List Value} {Q Q2 : Option Value → Sg → Prop} (h : MH l0 g d μ hh σ vs mc ms Q) (hq : ∀ r σ', Q r σ' → Q2 r σ') : MH l0 g d μ hh σ vs mc ms Q2 := by
  intro p e ha hc hk s m args below hf hpre hP hK
  obtain ⟨k, o, h1, h2, h3, ⟨⟨⟨r, σ', q1, q2, q3⟩, q4⟩, q5⟩⟩ := h p e ha hc hk s m args below hf hpre hP hK
  exact ⟨k, o, h1, h2, h3, ⟨⟨r, σ', q1, hq r σ' q2, q3⟩, q4⟩, q5⟩
def SIMH (l0 : Launch) (g : Gw) (w : Nat) (d : Int) : Prop := ∀ σ, WI w σ → MH l0 g 9 mX8_toss hhT σ [.ref 0, .int (iI d)] 1 6 (fun r σ1 => ∃ z : Int, r = some (.int (iI z)) ∧ ∃ e : Nat, e ≤ 40 ∧ M9 σ1 ∧ MM l0 g e mX9_toss σ1 [.ref 257, .int (iI d)] 0 0 (fun r2 σ2 => r2 = some (.int (iI z)) ∧ WI w σ2))
theorem RSx.wi {w : Nat} {C : Nat → Nat → Int} {A : Nat → Int → Int} {V : Nat → Value} {h : Nat → va_E} {nx : Nat} {I : Nat → Int} {F : Nat → Int → Int} {ca : Nat → Nat} {sa : Nat → Nat → Nat} {own : Nat → Nat} (hS : RSx w C A V h nx I F ca sa own) : WI w (mp 257 (cp w C A V h) I F, nx) := ⟨C, A, V, h, nx, I, F, ca, sa, own, by rw [cp_mp], hS⟩
theorem s_toss {l0 : Launch} {g : Gw} {w : Nat} {d : Int} (hl : l0.stackTraces = false) (hd : inR d) : SIMH l0 g w d := by
  intro σ hσ
  obtain ⟨C, A, V, h, nx, I, F, ca, sa, own, rfl, hS⟩ := hσ
  have nx0 := hS.nx
  by_cases b : (0 ≤ d ∧ d ≤ 7) ∧ F 35 d = 1
  · obtain ⟨q, q1, q2, q3, q4, q5⟩ := hS.st b.1 b.2
    have h9 := fun h0 n => k_X9_toss1 (l0 := l0) (g := g) (mo := 257) (h0 := h0) (nx := n) (I := I) hd hS.k35 q5 (by unfold lsF; rw [if_pos b.1, b.2]; rfl)
    by_cases c : F 36 d = 1 ∨ F 36 d = 2
    · simp only [if_pos c] at h9
      refine (k_X8_toss1 b.1 q1 q4 q5 c).mono (fun r σ1 hq => ⟨-15, hq.1, 3, by decide, by rw [hq.2]; exact m9_cp, ?_⟩)
      rw [hq.2, cp_mp]
      exact MM.mono (h9 _ _) (fun r2 σ2 hq2 => ⟨hq2.1, by rw [hq2.2]; exact hS.wi⟩)
    · simp only [if_neg c] at h9
      refine (k_X8_toss2 hl b.1 q1 q4 q5 c hS.nx q3).mono (fun r σ1 hq => ⟨F 37 d, hq.1, 3, by decide, by rw [hq.2, mp_uph (by omega)]; exact m9_cp, ?_⟩)
      rw [hq.2, mp_uph (by omega), cp_mp]
      exact MM.mono (h9 _ _) (fun r2 σ2 hq2 => ⟨hq2.1, by rw [hq2.2]; exact hS.hup.wi⟩)
  · obtain ⟨y1, y2, y3⟩ := hS.why b
    refine (k_X8_toss0 hd hS.inC y3).mono (fun r σ1 hq => ⟨_, hq.1, 3, by decide, by rw [hq.2]; exact m9_cp, ?_⟩)
    rw [hq.2, cp_mp]
    exact MM.mono (md_ans y1.symm (k_X9_toss0 hd hS.k35 y2)) (fun r2 σ2 hq2 => ⟨hq2.1, by rw [hq2.2]; exact hS.wi⟩)
theorem RSx.o290 {w : Nat} {C : Nat → Nat → Int} {A : Nat → Int → Int} {V : Nat → Value} {h : Nat → va_E} {nx : Nat} {I : Nat → Int} {F : Nat → Int → Int} {ca : Nat → Nat} {sa : Nat → Nat → Nat} {own : Nat → Nat} {f : Nat → Int64} (hS : RSx w C A V h nx I F ca sa own) : RSx w C A V (va_up h 290 (.inl (3, 1, .inr (.inl f)))) nx I F ca sa own := by
  have hh : ∀ q, 291 ≤ q → va_up h 290 (.inl (3, 1, .inr (.inl f))) q = h q := fun q hq => va_up_ne _ _ (by omega)
  exact ⟨hS.dy.cong hh rfl rfl rfl rfl rfl rfl rfl, hS.ca, hS.sh.cong (fun _ _ _ => rfl) (fun _ _ _ => rfl) (fun _ _ _ => rfl) (Nat.le_refl _) (fun q q1 _ q3 => ⟨q3, hh q q1⟩) rfl rfl rfl rfl rfl rfl, hS.vi, hS.c7, hS.k7, hS.h3, hS.nx, f, va_up_self _ _ _⟩
/-- element: the law's helper, then the reference; what was thrown, and what stands in out -/
def SIME (l0 : Launch) (g : Gw) (w : Nat) (d i : Int) : Prop := ∀ σ, WI w σ → MH l0 g 9 mL_element hhE σ [.ref 0, .int (iI d), .int (iI i), .ref 290] 1 6 (fun r σ1 => ∃ k : Int, (0 ≤ k ∧ k ≤ 2) ∧ r = some (.int (iI k)) ∧ ∃ e : Nat, e ≤ 40 ∧ M9 σ1 ∧ MM l0 g e mX9_element σ1 [.ref 257, .int (iI d), .int (iI i)] 0 0 (fun r2 σ2 => ∃ b : Int64, r2 = some (.long b) ∧ WI w σ2 ∧ MD l0 g 0 mX9_thrown σ2 [.ref 257] 0 0 (some (.int (iI k))) σ2 ∧ (k = 0 → ∃ f : Nat → Int64, σ2.1 290 = .inl (3, 1, .inr (.inl f)) ∧ f 0 = b)))
theorem RSx.thr {w : Nat} {C : Nat → Nat → Int} {A : Nat → Int → Int} {V : Nat → Value} {h : Nat → va_E} {nx : Nat} {I : Nat → Int} {F : Nat → Int → Int} {ca : Nat → Nat} {sa : Nat → Nat → Nat} {own : Nat → Nat} (hS : RSx w C A V h nx I F ca sa own) (k : Int) : RSx w C A V h nx (va_up I 0 k) F ca sa own := hS.fr rfl rfl rfl rfl (fun _ _ => rfl)
theorem s_element {l0 : Launch} {g : Gw} {w : Nat} {d i : Int} (hl : l0.stackTraces = false) (hd : inR d) (hi : inR i) : SIME l0 g w d i := by
  intro σ hσ
  obtain ⟨C, A, V, h, nx, I, F, ca, sa, own, rfl, hS⟩ := hσ
  have nx0 := hS.nx
  by_cases b : 0 ≤ d ∧ d ≤ 7
  · have sd := hS.sh d b.1 b.2
    have kd := sd.k
    have kk := sd.kk
    have zd := sd.z39
    by_cases c : 3 ≤ F 35 d ∧ (0 ≤ i ∧ i < F 39 d)
    · have ed := sd.e c.1
      obtain ⟨f, hf⟩ := hS.out
      have h8 := k_L_element0 (l0 := l0) (g := g) (w := w) (C := C) (A := A) (V := V) (h := mp 257 h I F) (nx := nx) (f := f) (i := i) (by rw [mp_out (.inr (by decide))]; exact hf) b (by omega) sd.z (by omega)
      rw [mp_uph (by decide), ed.2 i c.2.1 c.2.2] at h8
      refine h8.mono (fun r σ1 hq => ⟨0, by decide, hq.1, 2, by decide, by rw [hq.2]; exact m9_cp, ?_⟩)
      rw [hq.2, cp_mp]
      refine MM.mono (k_X9_element0 b (by omega) c.1 hS.k35 hS.k39) (fun r2 σ2 hq2 => ⟨_, hq2.1, ?_, ?_, fun _ => ⟨vp_updL f 0 (iI (F 40 (60 * d + i))).toInt64, ?_, ?_⟩⟩)
      · rw [hq2.2]; exact (hS.o290.thr 0).wi
      · rw [hq2.2]; exact k_X9_thrown
      · rw [hq2.2]
        have e1 := mp_out (mo := 257) (h0 := cp w C A V (va_up h 290 (.inl (3, 1, .inr (.inl (vp_updL f 0 (iI (F 40 (60 * d + i))).toInt64)))))) (I := va_up I 0 0) (F := F) (q := 290) (.inr (by decide))
        rw [cp_ge (by decide), va_up_self] at e1
        exact e1
      · simp [vp_updL]
    · have h8 := k_L_element2 (l0 := l0) (g := g) (w := w) (C := C) (A := A) (V := V) (h := mp 257 h I F) (nx := nx) (i := i) hl nx0 b hi (hS.inC b) sd.z (by
        by_cases q : 3 ≤ F 35 d
        · have := (sd.e q).1
          omega
        · omega)
      rw [mp_uph (by omega)] at h8
      refine h8.mono (fun r σ1 hq => ⟨2, by decide, hq.1, 2, by decide, by rw [hq.2]; exact m9_cp, ?_⟩)
      rw [hq.2, cp_mp]
      refine MM.mono (k_X9_element2 b hi hS.k35 hS.k39 (by omega)) (fun r2 σ2 hq2 => ⟨_, hq2.1, ?_, ?_, fun z => absurd z (by decide)⟩)
      · rw [hq2.2]; exact (hS.hup.thr 2).wi
      · rw [hq2.2]; exact k_X9_thrown
  · have h8 := k_L_element1 (l0 := l0) (g := g) (w := w) (C := C) (A := A) (V := V) (h := mp 257 h I F) (nx := nx) (i := i) hl nx0 hd b
    rw [mp_uph (by omega)] at h8
    refine h8.mono (fun r σ1 hq => ⟨1, by decide, hq.1, 2, by decide, by rw [hq.2]; exact m9_cp, ?_⟩)
    rw [hq.2, cp_mp]
    refine MM.mono (k_X9_element1 hd hi b) (fun r2 σ2 hq2 => ⟨_, hq2.1, ?_, ?_, fun z => absurd z (by decide)⟩)
    · rw [hq2.2]; exact (hS.hup.thr 1).wi
    · rw [hq2.2]; exact k_X9_thrown
