/-! pairs lie among the villages; the tree's sum is small -/
def ppI (v : Int) (p : (Int → Int) × (Int → Int) × Int) : Prop := 0 ≤ p.2.2 ∧ ∀ j, 0 ≤ j → j < p.2.2 → (0 ≤ p.1 j ∧ p.1 j < v) ∧ (0 ≤ p.2.1 j ∧ p.2.1 j < v)
theorem ppB_I {v a : Int} (ha : 0 ≤ a ∧ a < v) : ∀ (n : Nat) (c : Int) (p : (Int → Int) × (Int → Int) × Int), (0 ≤ c ∧ c + n ≤ v) → ppI v p → ppI v (ppB a n c p) := by
  intro n
  induction n with
  | zero => intro c p _ h; exact h
  | succ n ih =>
    intro c p hc h
    refine ih (c + 1) _ (by omega) ⟨by show 0 ≤ p.2.2 + 1; have := h.1; omega, fun j h1 h2 => ?_⟩
    have h2' : j < p.2.2 + 1 := h2
    show (0 ≤ fu p.1 p.2.2 a j ∧ fu p.1 p.2.2 a j < v) ∧ (0 ≤ fu p.2.1 p.2.2 c j ∧ fu p.2.1 p.2.2 c j < v)
    by_cases e : j = p.2.2
    · rw [e, fu_s, fu_s]
      exact ⟨ha, by omega⟩
    · rw [fu_n e, fu_n e]
      exact h.2 j h1 (by omega)
theorem ppA_I {v : Int} (hv : v ≤ 6) : ∀ (n : Nat) (a : Int) (p : (Int → Int) × (Int → Int) × Int), (0 ≤ a ∧ a + n = v) → ppI v p → 2 * p.2.2 ≤ a * (11 - a) → ppI v (ppA v n a p) ∧ 2 * (ppA v n a p).2.2 ≤ v * (11 - v) := by
  intro n
  induction n with
  | zero => intro a p ha h h2; rw [show v = a by omega]; exact ⟨by rw [show a = v by omega]; exact h, h2⟩
  | succ n ih =>
    intro a p ha h h2
    unfold ppA
    refine ih (a + 1) _ (by omega) (ppB_I (by omega) _ _ _ (by omega) h) ?_
    rw [ppB_n]
    rcases (show a = 0 ∨ a = 1 ∨ a = 2 ∨ a = 3 ∨ a = 4 ∨ a = 5 by omega) with rfl | rfl | rfl | rfl | rfl | rfl <;> omega
def trI (t : TrS) : Prop := 0 ≤ t.2.2.2 ∧ t.2.2.2 ≤ 8 * t.2.2.1
theorem trB_I {W : Int → Int} {v : Nat} {far a : Int} (hf : 0 ≤ far ∧ far ≤ 8) : ∀ (n : Nat) (b : Int) (t : TrS), trI t → trI (trB W v far a n b t) := by
  intro n
  induction n with
  | zero => intro b t h; exact h
  | succ n ih =>
    intro b t h
    refine ih (b + 1) _ ?_
    split
    · have := h.1
      have := h.2
      exact ⟨by show 0 ≤ t.2.2.2 + far; omega, by show t.2.2.2 + far ≤ 8 * (t.2.2.1 + 1); omega⟩
    · exact h
theorem trA_I {W : Int → Int} {v : Nat} {far : Int} (hf : 0 ≤ far ∧ far ≤ 8) : ∀ (n : Nat) (a : Int) (t : TrS), trI t → trI (trA W v far n a t) := by
  intro n
  induction n with
  | zero => intro a t h; exact h
  | succ n ih => intro a t h; exact ih (a + 1) _ (trB_I hf _ _ _ h)
theorem trF_I {W : Int → Int} {v : Nat} : ∀ (n : Nat) (far : Int) (t : TrS), (0 ≤ far ∧ far + n ≤ 9) → trI t → trI (trF W v n far t) := by
  intro n
  induction n with
  | zero => intro far t _ h; exact h
  | succ n ih => intro far t hf h; exact ih (far + 1) _ (by omega) (trA_I (by omega) _ _ _ h)
theorem treeT_sum (I : Nat → Int) (F : Nat → Int → Int) (h27 : 0 ≤ I 27 ∧ I 27 ≤ 8) : 0 ≤ (treeT I F).2.2.2 ∧ (treeT I F).2.2.2 ≤ 56 := by
  have h1 := trF_I (W := F 30) (v := (I 27).toNat) 9 0 (idA (I 27).toNat 0 (F 31), F 32, 0, 0) (by omega) ⟨Int.le_refl _, Int.le_refl _⟩
  have h2 := treeT_links I F h27
  have h3 : 0 ≤ (treeT I F).2.2.2 ∧ (treeT I F).2.2.2 ≤ 8 * (treeT I F).2.2.1 := h1
  omega
theorem pow15 {p : Int} (h : 0 ≤ p ∧ p ≤ 15) : (2 : Int) ^ p.toNat ≤ 32768 := by
  have h1 : 2 ^ p.toNat ≤ 2 ^ 15 := Nat.pow_le_pow_right (by decide) (by omega)
  have h2 : ((2 ^ p.toNat : Nat) : Int) ≤ ((2 ^ 15 : Nat) : Int) := Int.ofNat_le.mpr h1
  simpa using h2
