/-! RIVALS: the tree that grows by the nearest pairs has the least sum (by p84.py) -/
def gJ (v : Nat) : List Ed → (Int → Int) → Int → Int
  | [], g => g
  | e :: l, g => gJ v l (joinA (g (e.2 : Int)) (g (e.1 : Int)) v 0 g)
theorem gJ_app (v : Nat) : ∀ (l m : List Ed) (g : Int → Int), gJ v (l ++ m) g = gJ v m (gJ v l g) := by
  intro l
  induction l with
  | nil => intro m g; rfl
  | cons e l ih => intro m g; exact ih m _
theorem acG_app (v : Nat) : ∀ (l m : List Ed) (g : Int → Int), acG v (l ++ m) g = (acG v l g && acG v m (gJ v l g)) := by
  intro l
  induction l with
  | nil => intro m g; rfl
  | cons e l ih =>
    intro m g
    show (! (g (e.1 : Int) == g (e.2 : Int)) && acG v (l ++ m) (joinA (g (e.2 : Int)) (g (e.1 : Int)) v 0 g)) = ((! (g (e.1 : Int) == g (e.2 : Int)) && acG v l (joinA (g (e.2 : Int)) (g (e.1 : Int)) v 0 g)) && acG v m (gJ v l (joinA (g (e.2 : Int)) (g (e.1 : Int)) v 0 g)))
    rw [ih, Bool.and_assoc]
def ltE (l : List Ed) : Prop := ∀ e ∈ l, e.1 < e.2
def KI (W : Int → Int) (v : Nat) (g0 : Int → Int) (t : TrS) : Prop := gInv v t ∧ ∃ E : List Ed, inV v E ∧ ltE E ∧ acG v E g0 = true ∧ gJ v E g0 = t.1 ∧ (E.length : Int) = t.2.2.1 ∧ wL W E = t.2.2.2
theorem KI_J {W : Int → Int} {v a b : Nat} {g0 : Int → Int} {t : TrS} (h : KI W v g0 t) (hab : a < b) (hb : b < v) (hne : ¬ t.1 a = t.1 b) : KI W v g0 (trJ v (apF (W a) (W b)) a b t) := by
  obtain ⟨h1, E, e1, e2, e3, e4, e5, e6⟩ := h
  refine ⟨(gInv_J h1 (by omega) (by omega) hne).1, E ++ [(a, b)], ?_, ?_, ?_, ?_, ?_, ?_⟩
  · intro e he
    rcases List.mem_append.mp he with z | z
    · exact e1 e z
    · rw [List.mem_singleton.mp z]; exact ⟨by show a < v; omega, hb⟩
  · intro e he
    rcases List.mem_append.mp he with z | z
    · exact e2 e z
    · rw [List.mem_singleton.mp z]; exact hab
  · rw [acG_app, e3, e4]
    simp [acG, hne]
  · rw [gJ_app, e4]
    rfl
  · rw [List.length_append]
    show ((E.length + 1 : Nat) : Int) = t.2.2.1 + 1
    omega
  · rw [wL_app, e6]
    show t.2.2.2 + (wE W (a, b) + 0) = t.2.2.2 + apF (W a) (W b)
    rw [Int.add_zero]
    rfl
theorem kr_B {W : Int → Int} {v a : Nat} {g0 : Int → Int} {far : Int} : ∀ (n b : Nat) (t : TrS), KI W v g0 t → b + n ≤ v → a < b → KI W v g0 (trB W v far a n b t) ∧ RF v t.1 (trB W v far a n b t).1 ∧ (trB W v far a n b t).2.2.2 - far * (trB W v far a n b t).2.2.1 = t.2.2.2 - far * t.2.2.1 ∧ ∀ c : Nat, b ≤ c → c < b + n → apF (W a) (W c) = far → (trB W v far a n b t).1 a = (trB W v far a n b t).1 c := by
  intro n
  induction n with
  | zero => intro b t h _ _; exact ⟨h, RF_r _ _, rfl, fun c h1 h2 => by omega⟩
  | succ n ih =>
    intro b t h hv hab
    unfold trB
    have hi := fun t' => ih (b + 1) t'
    rw [show (((b + 1 : Nat)) : Int) = (b : Int) + 1 by omega] at hi
    by_cases c : apF (W a) (W b) = far ∧ ¬ t.1 a = t.1 b
    · rw [if_pos c]
      have hk := KI_J h hab (by omega) c.2
      rw [c.1] at hk
      obtain ⟨r1, r2, r3, r4⟩ := hi _ hk (by omega) (by omega)
      have hj : RF v t.1 (trJ v far a b t).1 := RF_J2 (RF_r _ _)
      have heq : (trJ v far a b t).1 a = (trJ v far a b t).1 b := by
        show joinA (t.1 b) (t.1 a) v 0 t.1 a = joinA (t.1 b) (t.1 a) v 0 t.1 b
        rw [jn_at (by omega), jn_at (by omega), if_neg c.2, if_pos rfl]
      refine ⟨r1, RF_t hj r2, r3.trans ?_, fun d d1 d2 d3 => ?_⟩
      · show t.2.2.2 + far - far * (t.2.2.1 + 1) = _
        rw [Int.mul_add, Int.mul_one]
        omega
      · by_cases q : d = b
        · rw [q]
          exact r2 _ _ (by omega) (by omega) heq
        · exact r4 d (by omega) (by omega) d3
    · rw [if_neg c]
      obtain ⟨r1, r2, r3, r4⟩ := hi t h (by omega) (by omega)
      refine ⟨r1, r2, r3, fun d d1 d2 d3 => ?_⟩
      by_cases q : d = b
      · rw [q] at d3 ⊢
        refine r2 _ _ (by omega) (by omega) ?_
        exact Decidable.byContradiction fun z => c ⟨d3, z⟩
      · exact r4 d (by omega) (by omega) d3
theorem kr_A {W : Int → Int} {v : Nat} {g0 : Int → Int} {far : Int} : ∀ (n a : Nat) (t : TrS), KI W v g0 t → a + n ≤ v → KI W v g0 (trA W v far n a t) ∧ RF v t.1 (trA W v far n a t).1 ∧ (trA W v far n a t).2.2.2 - far * (trA W v far n a t).2.2.1 = t.2.2.2 - far * t.2.2.1 ∧ ∀ d c : Nat, a ≤ d → d < a + n → d < c → c < v → apF (W d) (W c) = far → (trA W v far n a t).1 d = (trA W v far n a t).1 c := by
  intro n
  induction n with
  | zero => intro a t h _; exact ⟨h, RF_r _ _, rfl, fun d c h1 h2 => by omega⟩
  | succ n ih =>
    intro a t h hv
    unfold trA
    have hb := kr_B (W := W) (v := v) (a := a) (g0 := g0) (far := far) (v - (a + 1)) (a + 1) t h (by omega) (by omega)
    rw [show (((a + 1 : Nat)) : Int) = (a : Int) + 1 by omega] at hb
    rw [show ((v : Int) - ((a : Int) + 1)).toNat = v - (a + 1) by omega]
    obtain ⟨b1, b2, b3, b4⟩ := hb
    have hi := ih (a + 1) _ b1 (by omega)
    rw [show (((a + 1 : Nat)) : Int) = (a : Int) + 1 by omega] at hi
    obtain ⟨r1, r2, r3, r4⟩ := hi
    refine ⟨r1, RF_t b2 r2, r3.trans b3, fun d c d1 d2 d3 d4 d5 => ?_⟩
    by_cases q : d = a
    · subst q
      exact r2 _ _ (by omega) (by omega) (b4 c (by omega) (by omega) d5)
    · exact r4 d c (by omega) (by omega) d3 d4 d5
def INS (W : Int → Int) (v : Nat) (k : Int) (t : TrS) : Prop := ∀ a c : Nat, a < c → c < v → apF (W a) (W c) ≤ k → t.1 a = t.1 c
theorem kr_S {W : Int → Int} {v : Nat} {g0 : Int → Int} {far : Int} {t : TrS} (h : KI W v g0 t) (hi : INS W v (far - 1) t) : KI W v g0 (trA W v far v 0 t) ∧ INS W v far (trA W v far v 0 t) ∧ (trA W v far v 0 t).2.2.2 - far * (trA W v far v 0 t).2.2.1 = t.2.2.2 - far * t.2.2.1 := by
  obtain ⟨r1, r2, r3, r4⟩ := kr_A (far := far) v 0 t h (by omega)
  refine ⟨r1, fun a c h1 h2 h3 => ?_, r3⟩
  by_cases q : apF (W a) (W c) = far
  · exact r4 a c (by omega) (by omega) h1 h2 q
  · exact r2 _ _ (by omega) (by omega) (hi a c h1 h2 (by omega))
theorem fl_c {q : Ed → Bool} {e : Ed} {l : List Ed} : (((e :: l).filter q).length : Int) = ((l.filter q).length : Int) + (if q e = true then 1 else 0) := by
  rw [List.filter_cons]
  split
  · rw [List.length_cons]; omega
  · omega
def ctW (W : Int → Int) (k : Int) (l : List Ed) : Int := ((l.filter (fun e => decide (wE W e ≤ k))).length : Int)
theorem ctW_c (W : Int → Int) (k : Int) (e : Ed) (l : List Ed) : ctW W k (e :: l) = ctW W k l + (if wE W e ≤ k then 1 else 0) := by
  unfold ctW
  rw [fl_c]
  simp
theorem wL_th (W : Int → Int) (l : List Ed) : wL W l = 8 * (l.length : Int) - (ctW W 0 l + ctW W 1 l + ctW W 2 l + ctW W 3 l + ctW W 4 l + ctW W 5 l + ctW W 6 l + ctW W 7 l) := by
  induction l with
  | nil => simp [wL, ctW]
  | cons e l ih =>
    have h := wE_rng W e
    rw [wL, List.length_cons, ctW_c, ctW_c, ctW_c, ctW_c, ctW_c, ctW_c, ctW_c, ctW_c, ih]
    rcases (show wE W e = 0 ∨ wE W e = 1 ∨ wE W e = 2 ∨ wE W e = 3 ∨ wE W e = 4 ∨ wE W e = 5 ∨ wE W e = 6 ∨ wE W e = 7 ∨ wE W e = 8 by omega) with z | z | z | z | z | z | z | z | z <;> (rw [z]; simp; omega)
theorem ct_le {W : Int → Int} {v : Nat} {g0 : Int → Int} {k : Int} {t : TrS} {l : List Ed} (h : KI W v g0 t) (hi : INS W v k t) (h1 : inV v l) (h2 : ltE l) (h3 : acG v l gId = true) : ctW W k l ≤ t.2.2.1 := by
  have := forest h.1.1 (fun e => decide (wE W e ≤ k)) l gId gId (part_id v) (RF_r _ _) (fun i j _ _ q => by rw [show i = j from q]) h1 h3 (fun e he hq => hi e.1 e.2 (h2 e he) (h1 e he).2 (of_decide_eq_true hq))
  rw [gCt_id, h.1.2] at this
  unfold ctW
  omega
theorem ln_le {W : Int → Int} {v : Nat} {g0 : Int → Int} {t : TrS} {l : List Ed} (h : KI W v g0 t) (hi : INS W v 8 t) (h1 : inV v l) (h2 : ltE l) (h3 : acG v l gId = true) : (l.length : Int) ≤ t.2.2.1 := by
  have := forest h.1.1 (fun e => true) l gId gId (part_id v) (RF_r _ _) (fun i j _ _ q => by rw [show i = j from q]) h1 h3 (fun e he hq => hi e.1 e.2 (h2 e he) (h1 e he).2 (apF_rng _ _).2)
  rw [gCt_id, h.1.2, List.filter_eq_self.mpr (fun _ _ => rfl)] at this
  omega
/-- the tree of the villages: what it is, and that it is least -/
theorem kruskal {W : Int → Int} {v : Nat} {f l0 : Int → Int} (hv : 0 < v) {st : List Ed} (s1 : inV v st) (s2 : ltE st) (s3 : acG v st gId = true) (s4 : st.length + 1 = v) : (∃ E : List Ed, inV v E ∧ ltE E ∧ acG v E gId = true ∧ E.length + 1 = v ∧ wL W E = (trF W v 9 0 (idA v 0 f, l0, 0, 0)).2.2.2) ∧ (∀ l : List Ed, inV v l → ltE l → acG v l gId = true → l.length + 1 = v → (trF W v 9 0 (idA v 0 f, l0, 0, 0)).2.2.2 ≤ wL W l) := by
  have k0 : KI W v (idA v 0 f) (idA v 0 f, l0, 0, 0) := ⟨gInv_id v f l0, [], fun e he => absurd he (by simp), fun e he => absurd he (by simp), rfl, rfl, rfl, rfl⟩
  have i0 : INS W v (0 - 1) (idA v 0 f, l0, 0, 0) := fun a c _ _ h => by have := apF_rng (W a) (W c); omega
  generalize e0 : ((idA v 0 f, l0, 0, 0) : TrS) = t0 at k0 i0 ⊢
  have z1 : t0.2.2.1 = 0 := by rw [← e0]
  have z2 : t0.2.2.2 = 0 := by rw [← e0]
  show (∃ E : List Ed, inV v E ∧ ltE E ∧ acG v E gId = true ∧ E.length + 1 = v ∧ wL W E = (trA W v 8 v 0 (trA W v 7 v 0 (trA W v 6 v 0 (trA W v 5 v 0 (trA W v 4 v 0 (trA W v 3 v 0 (trA W v 2 v 0 (trA W v 1 v 0 (trA W v 0 v 0 t0))))))))).2.2.2) ∧ (∀ l : List Ed, inV v l → ltE l → acG v l gId = true → l.length + 1 = v → (trA W v 8 v 0 (trA W v 7 v 0 (trA W v 6 v 0 (trA W v 5 v 0 (trA W v 4 v 0 (trA W v 3 v 0 (trA W v 2 v 0 (trA W v 1 v 0 (trA W v 0 v 0 t0))))))))).2.2.2 ≤ wL W l)
  obtain ⟨k1, i1, q1⟩ := kr_S (far := 0) k0 i0
  generalize trA W v 0 v 0 t0 = t1 at *
  obtain ⟨k2, i2, q2⟩ := kr_S (far := 1) k1 i1
  generalize trA W v 1 v 0 t1 = t2 at *
  obtain ⟨k3, i3, q3⟩ := kr_S (far := 2) k2 i2
  generalize trA W v 2 v 0 t2 = t3 at *
  obtain ⟨k4, i4, q4⟩ := kr_S (far := 3) k3 i3
  generalize trA W v 3 v 0 t3 = t4 at *
  obtain ⟨k5, i5, q5⟩ := kr_S (far := 4) k4 i4
  generalize trA W v 4 v 0 t4 = t5 at *
  obtain ⟨k6, i6, q6⟩ := kr_S (far := 5) k5 i5
  generalize trA W v 5 v 0 t5 = t6 at *
  obtain ⟨k7, i7, q7⟩ := kr_S (far := 6) k6 i6
  generalize trA W v 6 v 0 t6 = t7 at *
  obtain ⟨k8, i8, q8⟩ := kr_S (far := 7) k7 i7
  generalize trA W v 7 v 0 t7 = t8 at *
  obtain ⟨k9, i9, q9⟩ := kr_S (far := 8) k8 i8
  generalize trA W v 8 v 0 t8 = t9 at *
  have l9 := ln_le k9 i9 s1 s2 s3
  have l9' := (gInv_links k9.1 hv).2
  refine ⟨?_, fun l a1 a2 a3 a4 => ?_⟩
  · obtain ⟨_, E, e1, e2, e3, e4, e5, e6⟩ := k9
    refine ⟨E, e1, e2, ?_, by omega, e6⟩
    rw [← acG_ag E (idA v 0 f) gId e1 (agV_i v f)]
    exact e3
  · rw [wL_th]
    have c0 := ct_le k1 i1 a1 a2 a3
    have c1 := ct_le k2 i2 a1 a2 a3
    have c2 := ct_le k3 i3 a1 a2 a3
    have c3 := ct_le k4 i4 a1 a2 a3
    have c4 := ct_le k5 i5 a1 a2 a3
    have c5 := ct_le k6 i6 a1 a2 a3
    have c6 := ct_le k7 i7 a1 a2 a3
    have c7 := ct_le k8 i8 a1 a2 a3
    omega
/-- pairs of E in the order of the numbers, those left out that would close a ring -/
def sk (v : Nat) (pr : Nat → Ed) (E : List Ed) : List Nat → (Int → Int) → List Nat
  | [], _ => []
  | p :: l, g => if pr p ∈ E ∧ ¬ g ((pr p).1 : Int) = g ((pr p).2 : Int) then p :: sk v pr E l (joinA (g ((pr p).2 : Int)) (g ((pr p).1 : Int)) v 0 g) else sk v pr E l g
theorem sk_all {v : Nat} {pr : Nat → Ed} {E : List Ed} : ∀ (l : List Nat) (g : Int → Int), part v g → (∀ p ∈ l, (pr p).1 < v ∧ (pr p).2 < v) → (sk v pr E l g).Sublist l ∧ acG v ((sk v pr E l g).map pr) g = true ∧ (∀ p ∈ sk v pr E l g, pr p ∈ E) ∧ ∃ k, part v k ∧ RF v g k ∧ gCt k v = gCt g v + ((sk v pr E l g).length : Int) ∧ ∀ p ∈ l, pr p ∈ E → k ((pr p).1 : Int) = k ((pr p).2 : Int) := by
  intro l
  induction l with
  | nil => intro g hg _; exact ⟨List.Sublist.refl _, rfl, fun p hp => absurd hp (by simp [sk]), g, hg, RF_r _ _, by simp [sk], fun p hp => absurd hp (by simp)⟩
  | cons p l ih =>
    intro g hg hl
    have hp := hl p List.mem_cons_self
    have hl2 : ∀ p ∈ l, (pr p).1 < v ∧ (pr p).2 < v := fun x hx => hl x (List.mem_cons_of_mem _ hx)
    have ha : 0 ≤ ((pr p).1 : Int) ∧ ((pr p).1 : Int) < v := by omega
    have hb : 0 ≤ ((pr p).2 : Int) ∧ ((pr p).2 : Int) < v := by omega
    unfold sk
    by_cases c : pr p ∈ E ∧ ¬ g ((pr p).1 : Int) = g ((pr p).2 : Int)
    · rw [if_pos c]
      have hj := part_J hg ha hb c.2
      obtain ⟨r1, r2, r3, k, r4, r5, r6, r7⟩ := ih _ hj.1 hl2
      refine ⟨r1.cons₂ p, ?_, ?_, k, r4, RF_t (RF_J2 (RF_r _ _)) r5, ?_, ?_⟩
      · rw [List.map_cons]
        unfold acG
        rw [r2]
        simp [c.2]
      · intro x hx
        rcases List.mem_cons.mp hx with z | z
        · rw [z]; exact c.1
        · exact r3 x z
      · rw [r6, hj.2, List.length_cons]; omega
      · intro x hx hE
        rcases List.mem_cons.mp hx with z | z
        · rw [z]
          refine r5 _ _ ha hb ?_
          rw [jn_at ha, jn_at hb, if_neg c.2, if_pos rfl]
        · exact r7 x z hE
    · rw [if_neg c]
      obtain ⟨r1, r2, r3, k, r4, r5, r6, r7⟩ := ih g hg hl2
      refine ⟨r1.cons p, r2, r3, k, r4, r5, r6, ?_⟩
      intro x hx hE
      rcases List.mem_cons.mp hx with z | z
      · rw [z] at hE ⊢
        exact r5 _ _ ha hb (Decidable.byContradiction fun y => c ⟨hE, y⟩)
      · exact r7 x z hE
theorem bl_of : ∀ (n p : Nat) (l : List Nat), l.Sublist (List.range' p n) → ∃ x, x < 2 ^ n ∧ bl n p x = l := by
  intro n
  induction n with
  | zero => intro p l h; exact ⟨0, by decide, by rw [show l = [] by simpa using h]; rfl⟩
  | succ n ih =>
    intro p l h
    rw [List.range'_succ, List.sublist_cons_iff] at h
    rcases h with z | ⟨r, e, z⟩
    · obtain ⟨x, x1, x2⟩ := ih (p + 1) l z
      refine ⟨2 * x, by rw [Nat.pow_succ]; omega, ?_⟩
      unfold bl
      rw [if_pos (by omega), show 2 * x / 2 = x by omega]
      exact x2
    · obtain ⟨x, x1, x2⟩ := ih (p + 1) r z
      refine ⟨2 * x + 1, by rw [Nat.pow_succ]; omega, ?_⟩
      unfold bl
      rw [if_neg (by omega), show (2 * x + 1) / 2 = x by omega, x2, e]
