/-! TYING A ROW: wool taken lot by lot, minutes; the class's loops (by p71.py) -/
theorem ixA_cong {f h : Int → Int} : ∀ (n : Nat) (l : Int), (∀ j, l ≤ j → j < l + n → f j = h j) → ixA f n l = ixA h n l := by
  intro n
  induction n with
  | zero => intro l _; rfl
  | succ n ih =>
    intro l hj
    unfold ixA
    rw [hj l (by omega) (by omega), ih (l + 1) (fun j h1 h2 => hj j (by omega) (by omega))]
theorem ixF_cong {f h : Int → Int} (hj : ∀ j, 0 ≤ j → j < 10 → f j = h j) : ixF f = ixF h := ixA_cong 10 0 (fun j h1 h2 => hj j h1 (by omega))
theorem tk_cong {f h : Int → Int} (hj : ∀ j, 0 ≤ j → j < 10 → f j = h j) : ∀ (n : Nat) (j : Int), 0 ≤ j → j < 10 → tkF f n j = tkF h n j := by
  intro n
  induction n with
  | zero => exact hj
  | succ n ih =>
    intro j h1 h2
    show take1 (tkF f n) j = take1 (tkF h n) j
    unfold take1
    rw [ixF_cong ih]
    by_cases e : j = ixF (tkF h n)
    · rw [← e, fu_s, fu_s, ih j h1 h2]
    · rw [fu_n e, fu_n e]
      exact ih j h1 h2
theorem tk_zero {f : Int → Int} (h : okL f) {l : Int} (hl : f l = 0) : ∀ (n : Nat), (n : Int) ≤ sumA f 10 0 0 → tkF f n l = 0 := by
  intro n
  induction n with
  | zero => intro _; exact hl
  | succ n ih =>
    intro hn
    have h1 := ih (by omega)
    have h2 := tk_ok h n (by omega)
    have h3 := ix_of h2.1 (by rw [h2.2]; omega)
    show take1 (tkF f n) l = 0
    unfold take1
    rw [fu_n (fun e => h3.2.1 (by rw [← e]; exact h1))]
    exact h1
theorem cntF_cong {kn kn' : Int → Int} {w : Int} (h : ∀ j, 0 ≤ j → j < w → kn j = kn' j) {c i : Int} (hi : i ≤ w) : cntF kn c i = cntF kn' c i := sumA_cong _ _ _ (fun j h1 h2 => by rw [h j h1 (by omega)])
theorem cntF_le {kn : Int → Int} {c i w : Int} (h0 : 0 ≤ i) (hi : i ≤ w) : cntF kn c i ≤ cntF kn c w := by
  have h := cntF_mono (kn := kn) (c := c) h0 (w - i).toNat
  rw [show i + ((w - i).toNat : Int) = w by omega] at h
  exact h
theorem stA_cong {e e' : Int → Int} {i : Int} : ∀ (n : Nat) (s S : Int), S ≤ s + n → (∀ j, s ≤ j → j < S → e j = e' j) → (∃ j, s ≤ j ∧ j < S ∧ i < e j) → stA e i n s = stA e' i n s := by
  intro n
  induction n with
  | zero => intro s S h1 _ ⟨j, g1, g2, _⟩; omega
  | succ n ih =>
    intro s S h1 h2 ⟨j, g1, g2, g3⟩
    have e1 := h2 s (by omega) (by omega)
    unfold stA
    rw [← e1]
    by_cases hc : e s ≤ i
    · rw [if_pos hc, if_pos hc]
      refine ih (s + 1) S (by omega) (fun j h3 h4 => h2 j (by omega) h4) ⟨j, ?_, g2, g3⟩
      rcases Int.lt_or_eq_of_le g1 with z | z
      · omega
      · subst z; omega
    · rw [if_neg hc, if_neg hc]
/-! hands side by side -/
theorem hfA_mono (s : Int → Int) {p q : Int} (h : p ≤ q) (hs : ∀ j, 0 ≤ j → j ≤ 5 → 1 ≤ s j) : ∀ (n : Nat) (k e : Int), 0 ≤ k → k + n ≤ 5 → hfA s p n k e ≤ hfA s q n k e := by
  intro n
  induction n with
  | zero => intro k e _ _; exact Int.le_refl _
  | succ n ih =>
    intro k e h1 h2
    unfold hfA
    have hr := hfA_rng s q n (k + 1) (e + s (k + 1))
    by_cases c1 : p < e
    · rw [if_pos c1]
      split
      · exact Int.le_refl _
      · omega
    · rw [if_neg c1, if_neg (by omega)]
      exact ih (k + 1) _ (by omega) (by omega)
theorem handF_mono {s : Int → Int} {p q : Int} (h : p ≤ q) (hs : ∀ j, 0 ≤ j → j ≤ 5 → 1 ≤ s j) : handF s p ≤ handF s q := hfA_mono s h hs 5 0 _ (by omega) (by omega)
/-- the colour of a hand's last knot so far, or l -/
def laA (s k : Int → Int) (h : Int) : Nat → Int → Int → Int
  | 0, _, l => l
  | m + 1, i, l => laA s k h m (i + 1) (if handF s i = h then k i else l)
theorem laA_s (s k : Int → Int) (h : Int) : ∀ (m : Nat) (i l : Int), laA s k h (m + 1) i l = if handF s (i + m) = h then k (i + m) else laA s k h m i l := by
  intro m
  induction m with
  | zero => intro i l; show (if handF s i = h then k i else l) = _; rw [show i + ((0 : Nat) : Int) = i by omega]; rfl
  | succ m ih =>
    intro i l
    show laA s k h (m + 1) (i + 1) _ = _
    rw [ih]
    rw [show i + 1 + (m : Int) = i + ((m + 1 : Nat) : Int) by omega]
    rfl
theorem mnA_u (s k : Int → Int) (h : Int) (m : Nat) (i n c l : Int) : mnA s k h (m + 1) i n c l = if handF s i = h then mnA s k h m (i + 1) (n + 1) (c + b2 (0 ≤ l ∧ ¬ k i = l)) (k i) else mnA s k h m (i + 1) n c l := rfl
theorem laA_u (s k : Int → Int) (h : Int) (m : Nat) (i l : Int) : laA s k h (m + 1) i l = laA s k h m (i + 1) (if handF s i = h then k i else l) := rfl
theorem mnA_s (s k : Int → Int) (h : Int) : ∀ (m : Nat) (i n c l : Int), mnA s k h (m + 1) i n c l = if handF s (i + m) = h then ((mnA s k h m i n c l).1 + 1, (mnA s k h m i n c l).2 + b2 (0 ≤ laA s k h m i l ∧ ¬ k (i + m) = laA s k h m i l)) else mnA s k h m i n c l := by
  intro m
  induction m with
  | zero =>
    intro i n c l
    rw [show i + ((0 : Nat) : Int) = i by omega]
    rfl
  | succ m ih =>
    intro i n c l
    rw [show i + ((m + 1 : Nat) : Int) = i + 1 + (m : Int) by omega, laA_u, mnA_u s k h (m + 1) i n c l, mnA_u s k h m i n c l]
    by_cases e : handF s i = h
    · rw [if_pos e, if_pos e, if_pos e, ih]
    · rw [if_neg e, if_neg e, if_neg e, ih]
/-- a hand that has tied nothing yet -/
theorem mnA_none {s k : Int → Int} {h : Int} : ∀ (m : Nat) (i n c l : Int), (∀ j, i ≤ j → j < i + m → ¬ handF s j = h) → mnA s k h m i n c l = (n, c) ∧ laA s k h m i l = l := by
  intro m
  induction m with
  | zero => intro i n c l _; exact ⟨rfl, rfl⟩
  | succ m ih =>
    intro i n c l hj
    have h1 := ih (i + 1) n c l (fun j g1 g2 => hj j (by omega) (by omega))
    have h2 := hj i (by omega) (by omega)
    unfold mnA laA
    rw [if_neg h2, if_neg h2]
    exact h1
/-- what a hand needs for the first m places -/
def mvF (s p kn : Int → Int) (m : Nat) (h : Int) : Int := ((mnA s kn h m 0 0 0 (-1)).1 + p h - 1) / p h + (mnA s kn h m 0 0 0 (-1)).2
theorem mvF_mnF (s p kn : Int → Int) (w h : Int) : mnF s p kn w h = mvF s p kn w.toNat h := rfl
theorem mvF_0 {s p kn : Int → Int} {h : Int} (hp : 1 ≤ p h) : mvF s p kn 0 h = 0 := by
  show (0 + p h - 1) / p h + 0 = 0
  rw [Int.ediv_eq_zero_of_lt (by omega) (by omega)]
  rfl
theorem mxA_cong {f h : Int → Int} : ∀ (n : Nat) (k m : Int), (∀ j, k ≤ j → j < k + n → f j = h j) → mxA f n k m = mxA h n k m := by
  intro n
  induction n with
  | zero => intro k m _; rfl
  | succ n ih =>
    intro k m hj
    unfold mxA
    rw [hj k (by omega) (by omega)]
    exact ih (k + 1) _ (fun j h1 h2 => hj j (by omega) (by omega))
theorem mxA_max (f : Int → Int) : ∀ (n : Nat) (k m x : Int), mxA f n k (if m < x then x else m) = if mxA f n k m < x then x else mxA f n k m := by
  intro n
  induction n with
  | zero => intro k m x; rfl
  | succ n ih =>
    intro k m x
    show mxA f n (k + 1) (if (if m < x then x else m) < f k then f k else (if m < x then x else m)) = if mxA f n (k + 1) (if m < f k then f k else m) < x then x else mxA f n (k + 1) (if m < f k then f k else m)
    rw [← ih]
    congr 1
    (repeat' split) <;> omega
/-- the largest, if one of them grows -/
theorem mxA_grow {f h : Int → Int} {a : Int} : ∀ (n : Nat) (k m : Int), (k ≤ a ∧ a < k + n) → (∀ j, k ≤ j → j < k + n → ¬ j = a → f j = h j) → f a ≤ h a → mxA h n k m = if mxA f n k m < h a then h a else mxA f n k m := by
  intro n
  induction n with
  | zero => intro k m h1; omega
  | succ n ih =>
    intro k m h1 h2 h3
    show mxA h n (k + 1) (if m < h k then h k else m) = if mxA f n (k + 1) (if m < f k then f k else m) < h a then h a else mxA f n (k + 1) (if m < f k then f k else m)
    by_cases e : a = k
    · subst e
      rw [← mxA_max, mxA_cong (h := f) n (a + 1) _ (fun j g1 g2 => (h2 j (by omega) (by omega) (by omega)).symm)]
      congr 1
      (repeat' split) <;> omega
    · rw [← h2 k (by omega) (by omega) (by omega)]
      exact ih (k + 1) _ (by omega) (fun j g1 g2 g3 => h2 j (by omega) (by omega) g3) h3
/-- the class's walk over a row: slowest so far, the hand's knots, its changes -/
def mwK (s kn : Int → Int) (i : Int) (t : Int × Int × Int) : Int × Int := if i = 0 ∨ ¬ handF s (i - 1) = handF s i then (0, 0) else if ¬ kn i = kn (i - 1) then (t.2.1, t.2.2 + 1) else (t.2.1, t.2.2)
def mwV (s p kn : Int → Int) (i : Int) (t : Int × Int × Int) : Int := ((mwK s kn i t).1 + 1 + p (handF s i) - 1) / p (handF s i) + (mwK s kn i t).2
def mwS (s p kn : Int → Int) (i : Int) (t : Int × Int × Int) : Int × Int × Int := ((if mwV s p kn i t ≤ t.1 then t.1 else mwV s p kn i t), (mwK s kn i t).1 + 1, (mwK s kn i t).2)
def mwA (s p kn : Int → Int) : Nat → Int → Int × Int × Int → Int × Int × Int
  | 0, _, t => t
  | n + 1, i, t => mwA s p kn n (i + 1) (mwS s p kn i t)
/-- after m places -/
def mwI (s p kn : Int → Int) (m : Nat) (t : Int × Int × Int) : Prop := t.1 = mxA (mvF s p kn m) 6 0 0 ∧ (0 < m → (mnA s kn (handF s ((m : Int) - 1)) m 0 0 0 (-1)) = t.2)
theorem mwI_s {s p kn : Int → Int} (hs : ∀ j, 0 ≤ j → j ≤ 5 → 1 ≤ s j) (hp : ∀ j, 0 ≤ j → j ≤ 5 → 1 ≤ p j) {m : Nat} {t : Int × Int × Int} (hk : ∀ j, 0 ≤ j → j ≤ (m : Int) → 0 ≤ kn j) (h : mwI s p kn m t) : mwI s p kn (m + 1) (mwS s p kn m t) := by
  obtain ⟨h1, h2⟩ := h
  have hr := handF_rng s (m : Int)
  have hpp := hp (handF s (m : Int)) hr.1 hr.2
  have hst := mnA_s s kn (handF s (m : Int)) m 0 0 0 (-1)
  rw [show (0 : Int) + (m : Int) = (m : Int) by omega, if_pos rfl] at hst
  -- knots and changes of the hand at the place m
  have key : mnA s kn (handF s (m : Int)) (m + 1) 0 0 0 (-1) = (mwS s p kn m t).2 := by
    rw [hst]
    by_cases c0 : (m : Int) = 0
    · have e0 : m = 0 := by omega
      subst e0
      have ek : mwK s kn ((0 : Nat) : Int) t = (0, 0) := if_pos (Or.inl rfl)
      have hno := mnA_none (s := s) (k := kn) (h := handF s ((0 : Nat) : Int)) 0 0 0 0 (-1) (fun j g1 g2 => by omega)
      rw [hno.1, hno.2]
      unfold mwS
      rw [ek, b2_f (by omega)]
      rfl
    · by_cases c1 : handF s ((m : Int) - 1) = handF s (m : Int)
      · have e2 := h2 (by omega)
        rw [c1] at e2
        obtain ⟨m0, rfl⟩ : ∃ m0, m = m0 + 1 := ⟨m - 1, by omega⟩
        have el := laA_s s kn (handF s ((m0 + 1 : Nat) : Int)) m0 0 (-1)
        rw [show (0 : Int) + (m0 : Int) = ((m0 + 1 : Nat) : Int) - 1 by omega, if_pos c1] at el
        have hk0 := hk (((m0 + 1 : Nat) : Int) - 1) (by omega) (by omega)
        rw [el, e2]
        have ek : mwK s kn ((m0 + 1 : Nat) : Int) t = if ¬ kn ((m0 + 1 : Nat) : Int) = kn (((m0 + 1 : Nat) : Int) - 1) then (t.2.1, t.2.2 + 1) else (t.2.1, t.2.2) := if_neg (fun z => z.elim c0 (fun y => y c1))
        unfold mwS
        rw [ek]
        by_cases c2 : kn ((m0 + 1 : Nat) : Int) = kn (((m0 + 1 : Nat) : Int) - 1)
        · rw [if_neg (show ¬ ¬ kn ((m0 + 1 : Nat) : Int) = kn (((m0 + 1 : Nat) : Int) - 1) from fun z => z c2), b2_f (fun z => z.2 c2)]
          show (t.2.1 + 1, t.2.2 + 0) = (t.2.1 + 1, t.2.2)
          rw [Int.add_zero]
        · rw [if_pos c2, b2_t ⟨hk0, c2⟩]
      · have hno := mnA_none (s := s) (k := kn) (h := handF s (m : Int)) m 0 0 0 (-1) (fun j g1 g2 e => c1 (by
          have q1 := handF_mono (s := s) (p := j) (q := (m : Int) - 1) (by omega) hs
          have q2 := handF_mono (s := s) (p := (m : Int) - 1) (q := (m : Int)) (by omega) hs
          omega))
        rw [hno.1, hno.2]
        have ek : mwK s kn (m : Int) t = (0, 0) := if_pos (Or.inr c1)
        unfold mwS
        rw [ek]
        rw [b2_f (by omega)]
        rfl
  refine ⟨?_, fun _ => by rw [show ((m + 1 : Nat) : Int) - 1 = (m : Int) by omega]; exact key⟩
  have hother : ∀ j, ¬ j = handF s (m : Int) → mvF s p kn (m + 1) j = mvF s p kn m j := by
    intro j hj
    unfold mvF
    rw [mnA_s, show (0 : Int) + (m : Int) = (m : Int) by omega, if_neg (fun e => hj e.symm)]
  have hgrow : mvF s p kn m (handF s (m : Int)) ≤ mvF s p kn (m + 1) (handF s (m : Int)) := by
    unfold mvF
    rw [hst]
    have hb := (b2_rng (0 ≤ laA s kn (handF s (m : Int)) m 0 (-1) ∧ ¬ kn (m : Int) = laA s kn (handF s (m : Int)) m 0 (-1))).1
    have hd : ((mnA s kn (handF s (m : Int)) m 0 0 0 (-1)).1 + p (handF s (m : Int)) - 1) / p (handF s (m : Int)) ≤ ((mnA s kn (handF s (m : Int)) m 0 0 0 (-1)).1 + 1 + p (handF s (m : Int)) - 1) / p (handF s (m : Int)) := Int.ediv_le_ediv (by omega) (by omega)
    show _ + _ ≤ ((mnA s kn (handF s (m : Int)) m 0 0 0 (-1)).1 + 1 + p (handF s (m : Int)) - 1) / p (handF s (m : Int)) + ((mnA s kn (handF s (m : Int)) m 0 0 0 (-1)).2 + b2 (0 ≤ laA s kn (handF s (m : Int)) m 0 (-1) ∧ ¬ kn (m : Int) = laA s kn (handF s (m : Int)) m 0 (-1)))
    omega
  have hval : mvF s p kn (m + 1) (handF s (m : Int)) = ((mwS s p kn m t).2.1 + p (handF s (m : Int)) - 1) / p (handF s (m : Int)) + (mwS s p kn m t).2.2 := by
    unfold mvF
    rw [key]
  rw [mxA_grow (f := mvF s p kn m) (a := handF s (m : Int)) 6 0 0 (by omega) (fun j _ _ g => (hother j g).symm) hgrow, ← h1, hval]
  show (if _ ≤ t.1 then t.1 else _) = _
  have e9 : ∀ v u : Int, (if v ≤ u then u else v) = (if u < v then v else u) := fun v u => by (repeat' split) <;> omega
  exact e9 _ _
theorem mwA_mx {s p kn : Int → Int} (hs : ∀ j, 0 ≤ j → j ≤ 5 → 1 ≤ s j) (hp : ∀ j, 0 ≤ j → j ≤ 5 → 1 ≤ p j) {w : Nat} (hk : ∀ j, 0 ≤ j → j < (w : Int) → 0 ≤ kn j) : ∀ (n m : Nat) (t : Int × Int × Int), m + n = w → mwI s p kn m t → (mwA s p kn n (m : Int) t).1 = mxA (mnF s p kn (w : Int)) 6 0 0 := by
  intro n
  induction n with
  | zero =>
    intro m t h1 h2
    show t.1 = _
    rw [h2.1, show m = w by omega]
    rfl
  | succ n ih =>
    intro m t h1 h2
    exact ih (m + 1) _ (by omega) (mwI_s hs hp (fun j g1 g2 => hk j g1 (by omega)) h2)
theorem mwI_0 {s p kn : Int → Int} (hp : ∀ j, 0 ≤ j → j ≤ 5 → 1 ≤ p j) (x y : Int) : mwI s p kn 0 (0, x, y) := by
  refine ⟨?_, fun h => absurd h (by omega)⟩
  rw [mxA_cong (h := fun _ => 0) 6 0 0 (fun j h1 h2 => mvF_0 (hp j h1 (by omega)))]
  rfl
