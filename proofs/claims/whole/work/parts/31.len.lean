/-! how far chants come: lengths alone -/
def msS (N K : Int → Int) (rec : Int → Int → Int × Int → Option (Int × Int)) (x base wide : Int) (p : Int × Int) : Option (Int × Int) :=
  if 1000 < p.2 + 1 then none
  else if K x = 4 then rec (N x) (wide - (p.1 - base)) (p.1, p.2 + 1)
  else if p.1 + amF (K x) (N x) (p.1 - base) wide ≤ 1000 then some (p.1 + amF (K x) (N x) (p.1 - base) wide, p.2 + 1)
  else none
def msL (N K : Int → Int) (rec : Int → Int → Int × Int → Option (Int × Int)) (c base wide : Int) : Nat → Int → Int × Int → Option (Int × Int)
  | 0, _, p => some p
  | n + 1, s, p => match msS N K rec (12 * c + s) base wide p with
    | none => none
    | some p1 => msL N K rec c base wide n (s + 1) p1
def ms (S K N : Int → Int) : Nat → Int → Int → Int × Int → Option (Int × Int)
  | 0, _, _, _ => none
  | d + 1, c, wide, p => msL N K (ms S K N d) c p.1 wide (S c).toNat 0 p
def csP (t : CS) : Int × Int := (t.1, t.2.2)
theorem sgS_ms {I : Nat → Int} {F : Nat → Int → Int} {rec : Int → Int → CS → Option CS} {rec2 : Int → Int → Int × Int → Option (Int × Int)} (h : ∀ c w t, (rec c w t).map csP = rec2 c w (csP t)) (x base wide : Int) (t : CS) : (sgS I F rec x base wide t).map csP = msS (F 5) (F 4) rec2 x base wide (csP t) := by
  unfold sgS msS
  show Option.map csP (if 1000 < t.2.2 + 1 then none else _) = if 1000 < t.2.2 + 1 then none else _
  by_cases h1 : 1000 < t.2.2 + 1
  · rw [if_pos h1, if_pos h1]; rfl
  · rw [if_neg h1, if_neg h1]
    by_cases h2 : F 4 x = 4
    · rw [if_pos h2, if_pos h2]
      exact h _ _ _
    · rw [if_neg h2, if_neg h2]
      show Option.map csP (if t.1 + amF (F 4 x) (F 5 x) (t.1 - base) wide ≤ 1000 then _ else none) = if t.1 + amF (F 4 x) (F 5 x) (t.1 - base) wide ≤ 1000 then _ else none
      split <;> rfl
theorem sgL_ms {I : Nat → Int} {F : Nat → Int → Int} {rec : Int → Int → CS → Option CS} {rec2 : Int → Int → Int × Int → Option (Int × Int)} (h : ∀ c w t, (rec c w t).map csP = rec2 c w (csP t)) (c base wide : Int) : ∀ (n : Nat) (s : Int) (t : CS), (sgL I F rec c base wide n s t).map csP = msL (F 5) (F 4) rec2 c base wide n s (csP t) := by
  intro n
  induction n with
  | zero => intro s t; rfl
  | succ n ih =>
    intro s t
    have e := sgS_ms h (I := I) (F := F) (12 * c + s) base wide t
    unfold sgL msL
    rw [← e]
    cases sgS I F rec (12 * c + s) base wide t with
    | none => rfl
    | some t1 => exact ih (s + 1) t1
theorem sg_ms (I : Nat → Int) (F : Nat → Int → Int) : ∀ (d : Nat) (c w : Int) (t : CS), (sg I F d c w t).map csP = ms (F 3) (F 4) (F 5) d c w (csP t) := by
  intro d
  induction d with
  | zero => intro c w t; rfl
  | succ d ih =>
    intro c w t
    exact sgL_ms ih c t.1 w (F 3 c).toNat 0 t
/-- what a call of the chant c answers -/
def lenM (S K N : Int → Int) (w c : Int) : Int := match ms S K N 12 c w (0, 0) with
  | none => -6
  | some p => p.1
/-- the chant c as it is sung over the knots f -/
def callR (I : Nat → Int) (F : Nat → Int → Int) (f : Int → Int) (c : Int) : Option CS := sg I F 12 c (I 1) (0, f, 0)
theorem callR_none {I : Nat → Int} {F : Nat → Int → Int} {f : Int → Int} {c : Int} (h : callR I F f c = none) : lenM (F 3) (F 4) (F 5) (I 1) c = -6 := by
  have e := sg_ms I F 12 c (I 1) (0, f, 0)
  unfold callR at h
  rw [h] at e
  unfold lenM
  have e2 : ms (F 3) (F 4) (F 5) 12 c (I 1) (0, 0) = none := e.symm
  rw [e2]
theorem callR_some {I : Nat → Int} {F : Nat → Int → Int} {f : Int → Int} {c : Int} {t : CS} (h : callR I F f c = some t) : lenM (F 3) (F 4) (F 5) (I 1) c = t.1 := by
  have e := sg_ms I F 12 c (I 1) (0, f, 0)
  unfold callR at h
  rw [h] at e
  unfold lenM
  have e2 : ms (F 3) (F 4) (F 5) 12 c (I 1) (0, 0) = some (csP t) := e.symm
  rw [e2]
  rfl
/-- the knots at the ends of the steps of the chant c -/
def endsR (I : Nat → Int) (F : Nat → Int → Int) (f : Int → Int) (c : Int) (e : Int → Int) : Int → Int := edL I F (sg I F 11) c 0 (I 1) (F 3 c).toNat 0 (0, f, 0) e
theorem cS_self (F : Nat → Int → Int) : cS F (F 7) (F 8) (F 9) (F 10) (F 11) (F 12) = F := by
  funext j
  unfold cS va_up
  (repeat' split) <;> simp [*]
/-- the scratch of a call may be another, all else is the same -/
def scr (I : Nat → Int) (F : Nat → Int → Int) (I' : Nat → Int) (F' : Nat → Int → Int) : Prop := ∃ (a : Int) (f e S T U V : Int → Int), col7 f ∧ I' = va_up I 13 a ∧ F' = cS F f e S T U V
theorem scr_refl {I : Nat → Int} {F : Nat → Int → Int} (h : col7 (F 7)) : scr I F I F := ⟨I 13, F 7, F 8, F 9, F 10, F 11, F 12, h, (va_up_same I 13).symm, (cS_self F).symm⟩
theorem cS_cS (F : Nat → Int → Int) (f e S T U V f' e' S' T' U' V' : Int → Int) : cS (cS F f e S T U V) f' e' S' T' U' V' = cS F f' e' S' T' U' V' := by
  funext j
  unfold cS va_up
  (repeat' split) <;> first | rfl | omega
theorem scr_trans {I I1 I2 : Nat → Int} {F F1 F2 : Nat → Int → Int} (h1 : scr I F I1 F1) (h2 : scr I1 F1 I2 F2) : scr I F I2 F2 := by
  obtain ⟨a, f, e, S, T, U, V, hc, rfl, rfl⟩ := h1
  obtain ⟨a', f', e', S', T', U', V', hc', rfl, rfl⟩ := h2
  exact ⟨a', f', e', S', T', U', V', hc', by rw [va_up_twice], by rw [cS_cS]⟩
