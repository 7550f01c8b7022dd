/-! chants grow: called never falls, ends lie between -/
section ENDS
variable {I : Nat → Int} {F : Nat → Int → Int} {rec : Int → Int → CS → Option CS}
theorem sgS_mono (hrec : ∀ (c' w' : Int) (t t1 : CS), 0 ≤ c' → c' < I 2 → t.1 ≤ 1000 → rec c' w' t = some t1 → t.1 ≤ t1.1 ∧ t1.1 ≤ 1000) (wf : wfC I F) {c base wide s : Int} {t t1 : CS} (hc : 0 ≤ c ∧ c < I 2) (hs : 0 ≤ s ∧ s < F 3 c) (hb : base ≤ t.1) (ht : t.1 ≤ 1000) (h : sgS I F rec (12 * c + s) base wide t = some t1) : t.1 ≤ t1.1 ∧ t1.1 ≤ 1000 := by
  obtain ⟨w1, w2, w3, w4, w5⟩ := (wf c hc.1 hc.2).2 s hs.1 hs.2
  unfold sgS at h
  by_cases g1 : 1000 < t.2.2 + 1
  · rw [if_pos g1] at h; cases h
  · rw [if_neg g1] at h
    by_cases g2 : F 4 (12 * c + s) = 4
    · rw [if_pos g2] at h
      have := w4 g2
      have q := hrec _ _ _ _ (by omega) (by omega) (by exact ht) h
      exact q
    · rw [if_neg g2] at h
      by_cases g3 : t.1 + amF (F 4 (12 * c + s)) (F 5 (12 * c + s)) (t.1 - base) wide ≤ 1000
      · rw [if_pos g3] at h
        cases h
        have := amF_nn (k := F 4 (12 * c + s)) (n := F 5 (12 * c + s)) (own := t.1 - base) (wide := wide) (fun z => by omega) (by omega)
        exact ⟨by show t.1 ≤ t.1 + _; omega, g3⟩
      · rw [if_neg g3] at h; cases h
theorem sgL_mono (hrec : ∀ (c' w' : Int) (t t1 : CS), 0 ≤ c' → c' < I 2 → t.1 ≤ 1000 → rec c' w' t = some t1 → t.1 ≤ t1.1 ∧ t1.1 ≤ 1000) (wf : wfC I F) {c base wide : Int} (hc : 0 ≤ c ∧ c < I 2) : ∀ (n : Nat) (s : Int) (t t1 : CS), (s + n = F 3 c ∧ 0 ≤ s) → base ≤ t.1 → t.1 ≤ 1000 → sgL I F rec c base wide n s t = some t1 → t.1 ≤ t1.1 ∧ t1.1 ≤ 1000 := by
  intro n
  induction n with
  | zero => intro s t t1 _ _ h3 h; cases h; exact ⟨Int.le_refl _, h3⟩
  | succ n ih =>
    intro s t t1 h1 h2 h3 h
    unfold sgL at h
    cases hS : sgS I F rec (12 * c + s) base wide t with
    | none => rw [hS] at h; cases h
    | some t2 =>
      rw [hS] at h
      have q1 := sgS_mono hrec wf hc ⟨h1.2, by omega⟩ h2 h3 hS
      have q2 := ih (s + 1) t2 t1 (by omega) (by omega) q1.2 h
      exact ⟨by omega, q2.2⟩
theorem sg_mono (wf : wfC I F) : ∀ (d : Nat) (c w : Int) (t t1 : CS), 0 ≤ c → c < I 2 → t.1 ≤ 1000 → sg I F d c w t = some t1 → t.1 ≤ t1.1 ∧ t1.1 ≤ 1000 := by
  intro d
  induction d with
  | zero => intro c w t t1 _ _ _ h; cases h
  | succ d ih =>
    intro c w t t1 h1 h2 h3 h
    have hst := (wf c h1 h2).1
    exact sgL_mono ih wf ⟨h1, h2⟩ (F 3 c).toNat 0 t t1 (by omega) (Int.le_refl _) h3 h
theorem edL_spec (hrec : ∀ (c' w' : Int) (t t1 : CS), 0 ≤ c' → c' < I 2 → t.1 ≤ 1000 → rec c' w' t = some t1 → t.1 ≤ t1.1 ∧ t1.1 ≤ 1000) (wf : wfC I F) {c base wide : Int} (hc : 0 ≤ c ∧ c < I 2) : ∀ (n : Nat) (s : Int) (t t1 : CS) (e : Int → Int), (s + n = F 3 c ∧ 0 ≤ s) → base ≤ t.1 → t.1 ≤ 1000 → sgL I F rec c base wide n s t = some t1 → (∀ j, j < s → edL I F rec c base wide n s t e j = e j) ∧ (∀ j, s ≤ j → j < s + n → t.1 ≤ edL I F rec c base wide n s t e j ∧ edL I F rec c base wide n s t e j ≤ t1.1) ∧ (0 < n → edL I F rec c base wide n s t e (s + n - 1) = t1.1) := by
  intro n
  induction n with
  | zero => intro s t t1 e _ _ h3 h; exact ⟨fun _ _ => rfl, fun j g1 g2 => by omega, fun z => by omega⟩
  | succ n ih =>
    intro s t t1 e h1 h2 h3 h
    unfold sgL at h
    unfold edL
    cases hS : sgS I F rec (12 * c + s) base wide t with
    | none => rw [hS] at h; cases h
    | some t2 =>
      rw [hS] at h
      have q1 := sgS_mono hrec wf hc ⟨h1.2, by omega⟩ h2 h3 hS
      have q2 := sgL_mono hrec wf hc n (s + 1) t2 t1 (by omega) (by omega) q1.2 h
      obtain ⟨r1, r2, r3⟩ := ih (s + 1) t2 t1 (fu e s t2.1) (by omega) (by omega) q1.2 h
      refine ⟨fun j g => ?_, fun j g1 g2 => ?_, fun _ => ?_⟩
      · show edL I F rec c base wide n (s + 1) t2 (fu e s t2.1) j = e j
        rw [r1 j (by omega), fu_n (by omega)]
      · show t.1 ≤ edL I F rec c base wide n (s + 1) t2 (fu e s t2.1) j ∧ edL I F rec c base wide n (s + 1) t2 (fu e s t2.1) j ≤ t1.1
        by_cases ej : j = s
        · rw [ej, r1 s (by omega), fu_s]
          exact ⟨q1.1, q2.1⟩
        · have := r2 j (by omega) (by omega)
          exact ⟨by omega, this.2⟩
      · show edL I F rec c base wide n (s + 1) t2 (fu e s t2.1) (s + ((n + 1 : Nat) : Int) - 1) = t1.1
        by_cases hn : 0 < n
        · rw [show s + ((n + 1 : Nat) : Int) - 1 = s + 1 + n - 1 by omega]
          exact r3 hn
        · have e0 : n = 0 := by omega
          subst e0
          rw [show s + ((0 + 1 : Nat) : Int) - 1 = s by omega, r1 s (by omega), fu_s]
          cases h
          rfl
end ENDS
theorem callR_rng {I : Nat → Int} {F : Nat → Int → Int} {f : Int → Int} {c : Int} {t : CS} (wf : wfC I F) (hc : 0 ≤ c ∧ c < I 2) (h : callR I F f c = some t) : 0 ≤ t.1 ∧ t.1 ≤ 1000 := sg_mono wf 12 c (I 1) (0, f, 0) t hc.1 hc.2 (by show (0 : Int) ≤ 1000; omega) h
theorem endsR_spec {I : Nat → Int} {F : Nat → Int → Int} {f e : Int → Int} {c : Int} {t : CS} (wf : wfC I F) (hc : 0 ≤ c ∧ c < I 2) (h : callR I F f c = some t) : (∀ j, 0 ≤ j → j < F 3 c → 0 ≤ endsR I F f c e j ∧ endsR I F f c e j ≤ t.1) ∧ (0 < F 3 c → endsR I F f c e (F 3 c - 1) = t.1) ∧ (F 3 c = 0 → t.1 = 0) := by
  have hst := (wf c hc.1 hc.2).1
  obtain ⟨r1, r2, r3⟩ := edL_spec (sg_mono wf 11) wf hc (base := 0) (wide := I 1) (F 3 c).toNat 0 (0, f, 0) t e (by omega) (by show (0 : Int) ≤ 0; omega) (by show (0 : Int) ≤ 1000; omega) h
  refine ⟨fun j g1 g2 => r2 j g1 (by omega), fun z => ?_, fun z => ?_⟩
  · have q := r3 (by omega)
    rw [show (0 : Int) + ((F 3 c).toNat : Int) - 1 = F 3 c - 1 by omega] at q
    exact q
  · have h2 : sgL I F (sg I F 11) c 0 (I 1) (F 3 c).toNat 0 (0, f, 0) = some t := h
    rw [z] at h2
    cases h2
    rfl
/-- lots beyond those that were dyed hold nothing -/
def lz (L lots : Int → Int) : Prop := ∀ c l, 0 ≤ c → c ≤ 7 → lots c ≤ l → l < 10 → L (10 * c + l) = 0
theorem lz_sum {L lots : Int → Int} {c : Int} (h : lz L lots) (hc : 0 ≤ c ∧ c ≤ 7) (hl : 0 ≤ lots c ∧ lots c ≤ 10) : sumA (fun l => L (10 * c + l)) (lots c).toNat 0 0 = sumA (lotF L c) 10 0 0 := by
  have e : ∀ (m n : Nat) (i a : Int), (∀ j, i + m ≤ j → j < i + m + n → L (10 * c + j) = 0) → sumA (fun l => L (10 * c + l)) (m + n) i a = sumA (fun l => L (10 * c + l)) m i a := by
    intro m
    induction m with
    | zero =>
      intro n i a hz
      rw [Nat.zero_add]
      induction n generalizing i a with
      | zero => rfl
      | succ n ih =>
        show sumA _ n (i + 1) (a + L (10 * c + i)) = a
        rw [hz i (by omega) (by omega), Int.add_zero]
        exact ih (i + 1) a (fun j g1 g2 => hz j (by omega) (by omega))
    | succ m ih =>
      intro n i a hz
      rw [show m + 1 + n = (m + n) + 1 by omega]
      show sumA _ (m + n) (i + 1) _ = sumA _ m (i + 1) _
      exact ih n (i + 1) _ (fun j g1 g2 => hz j (by omega) (by omega))
  have q := e (lots c).toNat (10 - (lots c).toNat) 0 0 (fun j g1 g2 => h c j hc.1 hc.2 (by omega) (by omega))
  rw [show (lots c).toNat + (10 - (lots c).toNat) = 10 by omega] at q
  exact q.symm
