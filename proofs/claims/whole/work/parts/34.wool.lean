/-! wool: the n-th knot of a colour takes from the first lot that isn't empty -/
/-- the first l, from l on, of n, where f isn't 0 -/
def ixA (f : Int → Int) : Nat → Int → Int
  | 0, l => l
  | n + 1, l => if f l = 0 then ixA f n (l + 1) else l
def ixF (f : Int → Int) : Int := ixA f 10 0
def take1 (f : Int → Int) : Int → Int := fu f (ixF f) (f (ixF f) - 1)
def tkF (f : Int → Int) : Nat → Int → Int
  | 0 => f
  | n + 1 => take1 (tkF f n)
theorem ixA_spec {f : Int → Int} : ∀ (n : Nat) (l : Int), (∃ j, l ≤ j ∧ j < l + n ∧ ¬ f j = 0) → (l ≤ ixA f n l ∧ ixA f n l < l + n) ∧ ¬ f (ixA f n l) = 0 ∧ ∀ j, l ≤ j → j < ixA f n l → f j = 0 := by
  intro n
  induction n with
  | zero => rintro l ⟨j, h1, h2, _⟩; omega
  | succ n ih =>
    rintro l ⟨j, h1, h2, h3⟩
    unfold ixA
    by_cases h : f l = 0
    · rw [if_pos h]
      have hj : j ≠ l := fun e => h3 (by rw [e]; exact h)
      have q := ih (l + 1) ⟨j, by omega, by omega, h3⟩
      refine ⟨by omega, q.2.1, fun i h4 h5 => ?_⟩
      by_cases e : i = l
      · rw [e]; exact h
      · exact q.2.2 i (by omega) h5
    · rw [if_neg h]
      exact ⟨by omega, h, fun i h4 h5 => by omega⟩
/-- lots that hold wool hold a number that isn't below 0; their sum -/
def okL (f : Int → Int) : Prop := ∀ l, 0 ≤ l → l < 10 → 0 ≤ f l ∧ f l ≤ 1000
theorem ix_of {f : Int → Int} (h : okL f) (hs : 0 < sumA f 10 0 0) : (0 ≤ ixF f ∧ ixF f ≤ 9) ∧ ¬ f (ixF f) = 0 ∧ ∀ j, 0 ≤ j → j < ixF f → f j = 0 := by
  have hex : ∃ j : Int, 0 ≤ j ∧ j < 0 + (10 : Nat) ∧ ¬ f j = 0 := by
    apply Classical.byContradiction
    intro hn
    have hz : ∀ j : Int, 0 ≤ j → j < 0 + (10 : Nat) → f j = 0 := fun j h1 h2 => Classical.byContradiction (fun z => hn ⟨j, h1, h2, z⟩)
    have := sumA_bd (f := f) (lo := 0) (hi := 0) 10 0 0 (fun j h1 h2 => by rw [hz j h1 h2]; omega)
    omega
  have q := ixA_spec (f := f) 10 0 hex
  unfold ixF
  exact ⟨by omega, q.2.1, q.2.2⟩
theorem take1_ok {f : Int → Int} (h : okL f) (hs : 0 < sumA f 10 0 0) : okL (take1 f) ∧ sumA (take1 f) 10 0 0 = sumA f 10 0 0 - 1 := by
  obtain ⟨h1, h2, h3⟩ := ix_of h hs
  refine ⟨fun l g1 g2 => ?_, ?_⟩
  · unfold take1
    by_cases e : l = ixF f
    · subst e
      rw [fu_s]
      have := h (ixF f) g1 g2
      omega
    · rw [fu_n e]
      exact h l g1 g2
  · have := sumA_one (f := take1 f) (h := f) (x := ixF f) (c := -1) 10 0 0 (fun j _ _ hj => by unfold take1; rw [fu_n hj]) (by unfold take1; rw [fu_s]; omega) h1.1 (by omega)
    omega
theorem tk_ok {f : Int → Int} (h : okL f) : ∀ (n : Nat), (n : Int) ≤ sumA f 10 0 0 → okL (tkF f n) ∧ sumA (tkF f n) 10 0 0 = sumA f 10 0 0 - n := by
  intro n
  induction n with
  | zero => intro _; exact ⟨h, by simp [tkF]⟩
  | succ n ih =>
    intro hn
    obtain ⟨q1, q2⟩ := ih (by omega)
    obtain ⟨r1, r2⟩ := take1_ok q1 (by omega)
    exact ⟨r1, by unfold tkF; omega⟩
/-- how many places before i are of the colour c -/
def cntF (kn : Int → Int) (c i : Int) : Int := sumA (fun j => b2 (kn j = c)) i.toNat 0 0
theorem cntF_s {kn : Int → Int} {c i : Int} (hi : 0 ≤ i) : cntF kn c (i + 1) = cntF kn c i + b2 (kn i = c) := by
  unfold cntF
  have e : ∀ (n : Nat) (s a : Int), sumA (fun j => b2 (kn j = c)) (n + 1) s a = sumA (fun j => b2 (kn j = c)) n s a + b2 (kn (s + n) = c) := by
    intro n
    induction n with
    | zero => intro s a; simp [sumA]
    | succ n ih =>
      intro s a
      have h1 := ih (s + 1) (a + b2 (kn s = c))
      have h2 : sumA (fun j => b2 (kn j = c)) (n + 1 + 1) s a = sumA (fun j => b2 (kn j = c)) (n + 1) (s + 1) (a + b2 (kn s = c)) := rfl
      have h3 : sumA (fun j => b2 (kn j = c)) (n + 1) s a = sumA (fun j => b2 (kn j = c)) n (s + 1) (a + b2 (kn s = c)) := rfl
      rw [h2, h3, h1, show s + 1 + (n : Int) = s + ((n + 1 : Nat) : Int) by omega]
  have h := e i.toNat 0 0
  rw [show (i + 1).toNat = i.toNat + 1 by omega, h, show (0 : Int) + (i.toNat : Int) = i by omega]
theorem cntF_0 (kn : Int → Int) (c : Int) : cntF kn c 0 = 0 := rfl
theorem cntF_nn (kn : Int → Int) (c i : Int) : 0 ≤ cntF kn c i := by
  have := sumA_bd (f := fun j => b2 (kn j = c)) (lo := 0) (hi := 1) i.toNat 0 0 (fun j _ _ => b2_rng _)
  unfold cntF
  omega
theorem cntF_mono {kn : Int → Int} {c i : Int} (hi : 0 ≤ i) : ∀ (n : Nat), cntF kn c i ≤ cntF kn c (i + n) := by
  intro n
  induction n with
  | zero => rw [show i + ((0 : Nat) : Int) = i by omega]; exact Int.le_refl _
  | succ n ih =>
    have h := cntF_s (kn := kn) (c := c) (i := i + n) (by omega)
    have := b2_rng (kn (i + n) = c)
    rw [show i + ((n + 1 : Nat) : Int) = i + n + 1 by omega]
    omega
/-- the wool of a colour of all lots in one row of 80 -/
def lotF (L : Int → Int) (c : Int) : Int → Int := fun l => L (10 * c + l)
/-- what is left when i places have taken their wool -/
def lfF (L kn : Int → Int) (i : Int) : Int → Int := fun y => if 0 ≤ y ∧ y < 80 then tkF (lotF L (y / 10)) (cntF kn (y / 10) i).toNat (y % 10) else L y
theorem lfF_0 (L kn : Int → Int) : lfF L kn 0 = L := by
  funext y
  unfold lfF
  split
  · rw [cntF_0]
    show L (10 * (y / 10) + y % 10) = L y
    congr 1
    omega
  · rfl
theorem lfF_at {L kn : Int → Int} {i c l : Int} (hc : 0 ≤ c ∧ c ≤ 7) (hl : 0 ≤ l ∧ l ≤ 9) : lfF L kn i (10 * c + l) = tkF (lotF L c) (cntF kn c i).toNat l := by
  unfold lfF
  rw [if_pos (by omega), show (10 * c + l) / 10 = c by omega, show (10 * c + l) % 10 = l by omega]
theorem lfF_s {L kn : Int → Int} {i l1 : Int} (hi : 0 ≤ i) (hc : 0 ≤ kn i ∧ kn i ≤ 7) (hl : l1 = ixF (tkF (lotF L (kn i)) (cntF kn (kn i) i).toNat)) (hl9 : 0 ≤ l1 ∧ l1 ≤ 9) : fu (lfF L kn i) (10 * kn i + l1) (lfF L kn i (10 * kn i + l1) - 1) = lfF L kn (i + 1) := by
  funext y
  by_cases e : y = 10 * kn i + l1
  · rw [e, fu_s, lfF_at hc hl9, lfF_at hc hl9, cntF_s hi, b2_t rfl]
    have hn := cntF_nn kn (kn i) i
    rw [show (cntF kn (kn i) i + 1).toNat = (cntF kn (kn i) i).toNat + 1 by omega]
    show _ = take1 (tkF (lotF L (kn i)) (cntF kn (kn i) i).toNat) l1
    unfold take1
    rw [← hl, fu_s]
  · rw [fu_n e]
    unfold lfF
    split
    · rename_i hy
      rw [cntF_s hi]
      by_cases ec : kn i = y / 10
      · rw [b2_t ec]
        have hn := cntF_nn kn (y / 10) i
        rw [show (cntF kn (y / 10) i + 1).toNat = (cntF kn (y / 10) i).toNat + 1 by omega]
        show _ = take1 (tkF (lotF L (y / 10)) (cntF kn (y / 10) i).toNat) (y % 10)
        unfold take1
        rw [← ec, ← hl, fu_n (by omega)]
      · rw [b2_f ec, Int.add_zero]
    · rfl
/-- the first step, from s on, at whose end there are more knots than i -/
def stA (en : Int → Int) (i : Int) : Nat → Int → Int
  | 0, s => s
  | n + 1, s => if en s ≤ i then stA en i n (s + 1) else s
theorem stA_spec {en : Int → Int} {i : Int} : ∀ (n : Nat) (s : Int), (∃ j, s ≤ j ∧ j < s + n ∧ i < en j) → (s ≤ stA en i n s ∧ stA en i n s < s + n) ∧ i < en (stA en i n s) ∧ ∀ j, s ≤ j → j < stA en i n s → en j ≤ i := by
  intro n
  induction n with
  | zero => rintro s ⟨j, h1, h2, _⟩; omega
  | succ n ih =>
    rintro s ⟨j, h1, h2, h3⟩
    unfold stA
    by_cases h : en s ≤ i
    · rw [if_pos h]
      have hj : j ≠ s := fun e => by rw [e] at h3; omega
      have q := ih (s + 1) ⟨j, by omega, by omega, h3⟩
      refine ⟨by omega, q.2.1, fun k h4 h5 => ?_⟩
      by_cases e : k = s
      · rw [e]; exact h
      · exact q.2.2 k (by omega) h5
    · rw [if_neg h]
      exact ⟨by omega, by omega, fun k h4 h5 => by omega⟩
/-- the step that called the place i -/
def stF (en : Int → Int) (i : Int) : Int := stA en i 12 0
/-- the most of n from h on -/
def mxA (f : Int → Int) : Nat → Int → Int → Int
  | 0, _, m => m
  | n + 1, h, m => mxA f n (h + 1) (if m < f h then f h else m)
theorem in1000 {z : Int} (h : 0 ≤ z ∧ z ≤ 1000) : inR z := ⟨by omega, by omega⟩
