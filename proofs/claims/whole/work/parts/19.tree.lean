/-! groups and the tree: pure -/
theorem joinA_at (x y : Int) : ∀ (n : Nat) (s : Int) (f : Int → Int) (i : Int), joinA x y n s f i = if (s ≤ i ∧ i < s + n) ∧ f i = x then y else f i := by
  intro n
  induction n with
  | zero => intro s f i; unfold joinA; rw [if_neg (by omega)]
  | succ n ih =>
    intro s f i
    unfold joinA
    rw [ih]
    by_cases hi : i = s
    · subst hi
      rw [if_neg (by omega)]
      by_cases h : f i = x
      · rw [if_pos h, if_pos ⟨by omega, h⟩, fu_s]
      · rw [if_neg h, if_neg (fun z => h z.2)]
    · have e : (if f s = x then fu f s y else f) i = f i := by
        split
        · exact fu_n hi
        · rfl
      rw [e]
      by_cases h : f i = x
      · by_cases h2 : s ≤ i ∧ i < s + ((n + 1 : Nat) : Int)
        · rw [if_pos ⟨by omega, h⟩, if_pos ⟨h2, h⟩]
        · rw [if_neg (by omega), if_neg (fun z => h2 z.1)]
      · rw [if_neg (fun z => h z.2), if_neg (fun z => h z.2)]
theorem idA_at : ∀ (n : Nat) (s : Int) (f : Int → Int) (i : Int), idA n s f i = if s ≤ i ∧ i < s + n then i else f i := by
  intro n
  induction n with
  | zero => intro s f i; unfold idA; rw [if_neg (by omega)]
  | succ n ih =>
    intro s f i
    unfold idA
    rw [ih]
    by_cases hi : i = s
    · subst hi
      rw [if_neg (by omega), if_pos (by omega), fu_s]
    · rw [fu_n hi]
      by_cases h2 : s ≤ i ∧ i < s + ((n + 1 : Nat) : Int)
      · rw [if_pos (by omega), if_pos h2]
      · rw [if_neg (by omega), if_neg h2]
theorem sumA_one {f h : Int → Int} {x c : Int} : ∀ (n : Nat) (i a : Int), (∀ j, i ≤ j → j < i + n → j ≠ x → f j = h j) → f x = h x + c → i ≤ x → x < i + n → sumA f n i a = sumA h n i a + c := by
  intro n
  induction n with
  | zero => intro i a _ _ h1 h2; omega
  | succ n ih =>
    intro i a hj hx h1 h2
    simp only [sumA]
    by_cases e : i = x
    · subst e
      rw [hx, sumA_acc f, sumA_acc h, sumA_cong (f := f) (h := h) n (i + 1) 0 (fun j h3 h4 => hj j (by omega) (by omega) (by omega))]
      omega
    · rw [hj i (by omega) (by omega) e]
      exact ih (i + 1) _ (fun j h3 h4 h5 => hj j (by omega) (by omega) h5) hx (by omega) (by omega)
theorem gCt_le {f : Int → Int} {v : Nat} {y : Int} (h0 : 0 ≤ y) (h1 : y < v) (hy : f y = y) : gCt f v ≤ v - 1 := by
  unfold gCt
  have e1 := sumA_one (f := fun i => if i = y then 1 else b2 (¬ f i = i)) (h := fun i => b2 (¬ f i = i)) (x := y) (c := 1) v 0 0 (fun j _ _ hj => if_neg hj) (by show (if y = y then (1 : Int) else _) = b2 (¬ f y = y) + 1; rw [if_pos rfl, b2_f (fun z => z hy)]; rfl) h0 (by omega)
  have e2 := sumA_bd (f := fun i => if i = y then 1 else b2 (¬ f i = i)) (lo := 0) (hi := 1) v 0 0 (fun j _ _ => by
    show 0 ≤ (if j = y then (1 : Int) else b2 (¬ f j = j)) ∧ (if j = y then (1 : Int) else b2 (¬ f j = j)) ≤ 1
    split
    · omega
    · exact b2_rng _)
  omega
theorem gInv_id (v : Nat) (f l : Int → Int) : gInv v (idA v 0 f, l, 0, 0) := by
  refine ⟨fun i h1 h2 => ?_, ?_⟩
  · show (0 ≤ idA v 0 f i ∧ idA v 0 f i < v) ∧ idA v 0 f (idA v 0 f i) = idA v 0 f i
    have e : idA v 0 f i = i := by rw [idA_at, if_pos (by omega)]
    rw [e, e]
    exact ⟨⟨h1, h2⟩, rfl⟩
  · show gCt (idA v 0 f) v = 0
    unfold gCt
    have e := sumA_bd (f := fun i => b2 (¬ idA v 0 f i = i)) (lo := 0) (hi := 0) v 0 0 (fun j h1 h2 => by
      have e : idA v 0 f j = j := by rw [idA_at, if_pos (by omega)]
      show 0 ≤ b2 (¬ idA v 0 f j = j) ∧ b2 (¬ idA v 0 f j = j) ≤ 0
      rw [b2_f (fun z => z e)]
      omega)
    omega
theorem gInv_J {v : Nat} {t : TrS} {far a b : Int} (h : gInv v t) (ha : 0 ≤ a ∧ a < v) (hb : 0 ≤ b ∧ b < v) (hne : ¬ t.1 a = t.1 b) : gInv v (trJ v far a b t) ∧ t.2.2.1 + 1 ≤ v - 1 := by
  obtain ⟨h1, h2⟩ := h
  have hx := h1 b hb.1 hb.2
  have hy := h1 a ha.1 ha.2
  have hfx : t.1 (t.1 b) = t.1 b := hx.2
  have hfy : t.1 (t.1 a) = t.1 a := hy.2
  have at' : ∀ i, joinA (t.1 b) (t.1 a) v 0 t.1 i = if (0 ≤ i ∧ i < 0 + v) ∧ t.1 i = t.1 b then t.1 a else t.1 i := fun i => joinA_at _ _ v 0 t.1 i
  have hyy : joinA (t.1 b) (t.1 a) v 0 t.1 (t.1 a) = t.1 a := by
    rw [at', if_neg (fun z => hne (by rw [← z.2, hfy])), hfy]
  have hcount : gCt (joinA (t.1 b) (t.1 a) v 0 t.1) v = t.2.2.1 + 1 := by
    rw [← h2]
    unfold gCt
    refine sumA_one (x := t.1 b) v 0 0 (fun j g1 g2 g3 => ?_) ?_ hx.1.1 (by have := hx.1.2; omega)
    · show b2 (¬ joinA (t.1 b) (t.1 a) v 0 t.1 j = j) = b2 (¬ t.1 j = j)
      rw [at']
      by_cases e : t.1 j = t.1 b
      · rw [if_pos ⟨by omega, e⟩, b2_t (p := ¬ t.1 j = j) (by rw [e]; exact fun z => g3 z.symm), b2_t]
        intro z
        rw [← z, hfy] at e
        exact hne e
      · rw [if_neg (fun z => e z.2)]
    · show b2 (¬ joinA (t.1 b) (t.1 a) v 0 t.1 (t.1 b) = t.1 b) = b2 (¬ t.1 (t.1 b) = t.1 b) + 1
      rw [at', if_pos ⟨by have := hx.1; omega, hfx⟩, b2_t hne, b2_f (fun z => z hfx)]
      rfl
  refine ⟨⟨fun i g1 g2 => ?_, hcount⟩, ?_⟩
  · show (0 ≤ joinA (t.1 b) (t.1 a) v 0 t.1 i ∧ joinA (t.1 b) (t.1 a) v 0 t.1 i < v) ∧ joinA (t.1 b) (t.1 a) v 0 t.1 (joinA (t.1 b) (t.1 a) v 0 t.1 i) = joinA (t.1 b) (t.1 a) v 0 t.1 i
    by_cases e : t.1 i = t.1 b
    · have e2 : joinA (t.1 b) (t.1 a) v 0 t.1 i = t.1 a := by rw [at', if_pos ⟨by omega, e⟩]
      rw [e2]
      exact ⟨hy.1, hyy⟩
    · have e2 : joinA (t.1 b) (t.1 a) v 0 t.1 i = t.1 i := by rw [at', if_neg (fun z => e z.2)]
      rw [e2]
      have hi := h1 i g1 g2
      refine ⟨hi.1, ?_⟩
      rw [at', if_neg (fun z => e (by rw [← z.2, hi.2])), hi.2]
  · rw [← hcount]
    exact gCt_le hy.1.1 hy.1.2 hyy
theorem gInv_links {v : Nat} {t : TrS} (h : gInv v t) (hv : 0 < v) : 0 ≤ t.2.2.1 ∧ t.2.2.1 ≤ v - 1 := by
  have h0 := h.1 0 (by omega) (by omega)
  have h1 := gCt_le h0.1.1 h0.1.2 h0.2
  have h2 := h.2
  have h3 := sumA_bd (f := fun i => b2 (¬ t.1 i = i)) (lo := 0) (hi := 1) v 0 0 (fun j _ _ => b2_rng _)
  unfold gCt at h1 h2
  omega
theorem gInv_B {W : Int → Int} {v : Nat} {far a : Int} (ha : 0 ≤ a ∧ a < v) : ∀ (n : Nat) (b : Int) (t : TrS), 0 ≤ b → b + n ≤ v → gInv v t → gInv v (trB W v far a n b t) := by
  intro n
  induction n with
  | zero => intro b t _ _ h; exact h
  | succ n ih =>
    intro b t h1 h2 h
    refine ih (b + 1) _ (by omega) (by omega) ?_
    split
    · rename_i hc
      exact (gInv_J h ha ⟨h1, by omega⟩ hc.2).1
    · exact h
theorem gInv_A {W : Int → Int} {v : Nat} {far : Int} : ∀ (n : Nat) (a : Int) (t : TrS), 0 ≤ a → a + n ≤ v → gInv v t → gInv v (trA W v far n a t) := by
  intro n
  induction n with
  | zero => intro a t _ _ h; exact h
  | succ n ih =>
    intro a t h1 h2 h
    exact ih (a + 1) _ (by omega) (by omega) (gInv_B ⟨h1, by omega⟩ _ (a + 1) t (by omega) (by omega) h)
theorem gInv_F {W : Int → Int} {v : Nat} : ∀ (n : Nat) (far : Int) (t : TrS), gInv v t → gInv v (trF W v n far t) := by
  intro n
  induction n with
  | zero => intro far t h; exact h
  | succ n ih =>
    intro far t h
    exact ih (far + 1) _ (gInv_A v 0 t (by omega) (by omega) h)
