/-! THE MEND: the reference's choice is the least; the class seeks it (by p59.py) -/
/-- a number v at the step s by which the chant c closes -/
abbrev cnd (S K N : Int → Int) (w c s v : Int) : Prop := (0 ≤ s ∧ s < S c) ∧ K (12 * c + s) = 0 ∧ (1 ≤ v ∧ v ≤ 40) ∧ lenM S K (fu N (12 * c + s) v) w c = w
def dst (N : Int → Int) (c s v : Int) : Int := if v < N (12 * c + s) then N (12 * c + s) - v else v - N (12 * c + s)
section MND
variable {S K N : Int → Int} {w c : Int}
theorem fmV_s (s : Int) (n : Nat) (v : Int) (p : Int × Int × Int) : fmV S K N w c (12 * c + s) (N (12 * c + s)) s (n + 1) v p = fmV S K N w c (12 * c + s) (N (12 * c + s)) s n (v + 1) (if dst N c s v < p.1 ∧ lenM S K (fu N (12 * c + s) v) w c = w then (dst N c s v, s, v) else p) := rfl
theorem fmV_keep {s D : Int} (hk : K (12 * c + s) = 0) (hs : 0 ≤ s ∧ s < S c) : ∀ (n : Nat) (v : Int) (p : Int × Int × Int), (1 ≤ v ∧ v + n ≤ 41) → p.1 = D → (∀ v', v ≤ v' → v' < v + n → cnd S K N w c s v' → D ≤ dst N c s v') → fmV S K N w c (12 * c + s) (N (12 * c + s)) s n v p = p := by
  intro n
  induction n with
  | zero => intro v p _ _ _; rfl
  | succ n ih =>
    intro v p h1 h2 h3
    rw [fmV_s, if_neg (fun z => ?_)]
    · exact ih (v + 1) p (by omega) h2 (fun v' g1 g2 => h3 v' (by omega) (by omega))
    · have q := h3 v (Int.le_refl _) (by omega) ⟨hs, hk, ⟨h1.1, by omega⟩, z.2⟩
      have z1 := z.1
      omega
theorem fmV_more {s D : Int} (hk : K (12 * c + s) = 0) (hs : 0 ≤ s ∧ s < S c) : ∀ (n : Nat) (v : Int) (p : Int × Int × Int), (1 ≤ v ∧ v + n ≤ 41) → D < p.1 → (∀ v', v ≤ v' → v' < v + n → cnd S K N w c s v' → D < dst N c s v') → D < (fmV S K N w c (12 * c + s) (N (12 * c + s)) s n v p).1 := by
  intro n
  induction n with
  | zero => intro v p _ h _; exact h
  | succ n ih =>
    intro v p h1 h2 h3
    rw [fmV_s]
    refine ih (v + 1) _ (by omega) ?_ (fun v' g1 g2 => h3 v' (by omega) (by omega))
    split
    · next z => exact h3 v (Int.le_refl _) (by omega) ⟨hs, hk, ⟨h1.1, by omega⟩, z.2⟩
    · exact h2
theorem fmV_find {s D V : Int} (hk : K (12 * c + s) = 0) (hs : 0 ≤ s ∧ s < S c) (hV : cnd S K N w c s V) (hD : dst N c s V = D) : ∀ (n : Nat) (v : Int) (p : Int × Int × Int), (1 ≤ v ∧ v + n ≤ 41) → (v ≤ V ∧ V < v + n) → D < p.1 → (∀ v', v ≤ v' → v' < V → cnd S K N w c s v' → D < dst N c s v') → (∀ v', V < v' → v' < v + n → cnd S K N w c s v' → D ≤ dst N c s v') → fmV S K N w c (12 * c + s) (N (12 * c + s)) s n v p = (D, s, V) := by
  intro n
  induction n with
  | zero => intro v p _ h; omega
  | succ n ih =>
    intro v p h1 h2 h3 h4 h5
    rw [fmV_s]
    by_cases e : v = V
    · subst e
      rw [if_pos ⟨by omega, hV.2.2.2⟩, hD]
      exact fmV_keep hk hs n (v + 1) (D, s, v) (by omega) rfl (fun v' g1 g2 => h5 v' (by omega) (by omega))
    · refine ih (v + 1) _ (by omega) (by omega) ?_ (fun v' g1 g2 => h4 v' (by omega) g2) (fun v' g1 g2 => h5 v' g1 (by omega))
      split
      · next z => exact h4 v (Int.le_refl _) (by omega) ⟨hs, hk, ⟨h1.1, by omega⟩, z.2⟩
      · exact h3
theorem fmS_keep {D : Int} : ∀ (n : Nat) (s : Int) (p : Int × Int × Int), (0 ≤ s ∧ s + n = S c) → p.1 = D → (∀ s' v', s ≤ s' → cnd S K N w c s' v' → D ≤ dst N c s' v') → fmS S K N w c n s p = p := by
  intro n
  induction n with
  | zero => intro s p _ _ _; rfl
  | succ n ih =>
    intro s p h1 h2 h3
    unfold fmS
    have e : (if K (12 * c + s) = 0 then fmV S K N w c (12 * c + s) (N (12 * c + s)) s 40 1 p else p) = p := by
      split
      · next z => exact fmV_keep z ⟨h1.1, by omega⟩ 40 1 p (by omega) h2 (fun v' _ _ => h3 s v' (Int.le_refl _))
      · rfl
    rw [e]
    exact ih (s + 1) p (by omega) h2 (fun s' v' g => h3 s' v' (by omega))
theorem fmS_find {D s0 V : Int} (hV : cnd S K N w c s0 V) (hD : dst N c s0 V = D) : ∀ (n : Nat) (s : Int) (p : Int × Int × Int), (0 ≤ s ∧ s + n = S c) → s ≤ s0 → D < p.1 → (∀ s' v', s ≤ s' → s' < s0 → cnd S K N w c s' v' → D < dst N c s' v') → (∀ v', v' < V → cnd S K N w c s0 v' → D < dst N c s0 v') → (∀ s' v', s0 ≤ s' → cnd S K N w c s' v' → D ≤ dst N c s' v') → fmS S K N w c n s p = (D, s0, V) := by
  intro n
  induction n with
  | zero => intro s p h1 h2; have := hV.1; omega
  | succ n ih =>
    intro s p h1 h2 h3 h4 h5 h6
    unfold fmS
    by_cases e : s = s0
    · subst e
      rw [if_pos hV.2.1, fmV_find hV.2.1 hV.1 hV hD 40 1 p (by omega) (by have := hV.2.2.1; omega) h3 (fun v' _ g => h5 v' g) (fun v' _ _ => h6 s v' (Int.le_refl _))]
      exact fmS_keep n (s + 1) (D, s, V) (by omega) rfl (fun s' v' g => h6 s' v' (by omega))
    · refine ih (s + 1) _ (by omega) (by omega) ?_ (fun s' v' g => h4 s' v' (by omega)) h5 h6
      split
      · next z => exact fmV_more z ⟨h1.1, by omega⟩ 40 1 p (by omega) h3 (fun v' _ _ => h4 s v' (Int.le_refl _) (by omega))
      · exact h3
theorem fmS_none (hn : ∀ s' v', ¬ cnd S K N w c s' v') (p : Int × Int × Int) (hS : 0 ≤ S c) : fmS S K N w c (S c).toNat 0 p = p := fmS_keep (D := p.1) (S c).toNat 0 p (by omega) rfl (fun s' v' _ z => absurd z (hn s' v'))
end MND
def cN (C : Nat → Nat → Int) (bg x y : Int) : Nat → Nat → Int := va_up C 230 (va_up (va_up (va_up (C 230) 6 bg) 7 x) 8 y)
theorem cN_self (C : Nat → Nat → Int) : cN C (C 230 6) (C 230 7) (C 230 8) = C := by
  unfold cN
  have e : va_up (va_up (va_up (C 230) 6 (C 230 6)) 7 (C 230 7)) 8 (C 230 8) = C 230 := by
    rw [va_up_same (C 230) 6, va_up_same (C 230) 7, va_up_same (C 230) 8]
  rw [e, va_up_same]
theorem va_up_comm {α : Type} (f : Nat → α) {i j : Nat} (a b : α) (h : i ≠ j) : va_up (va_up f i a) j b = va_up (va_up f j b) i a := by
  funext k
  unfold va_up
  (repeat' split) <;> first | rfl | omega
theorem cN_cM (C : Nat → Nat → Int) (bg x y bg' : Int) : cM (cN C bg x y) bg' = cN C bg' x y := by
  unfold cM cN
  rw [va_up_self, va_up_twice, va_up_comm _ _ _ (show 8 ≠ 6 by decide), va_up_comm _ _ _ (show 7 ≠ 6 by decide), va_up_twice]
theorem cN_7 (C : Nat → Nat → Int) (bg x y v : Int) : va_up (cN C bg x y) 230 (va_up (cN C bg x y 230) 7 v) = cN C bg v y := by
  unfold cN
  rw [va_up_self, va_up_twice, va_up_comm _ _ _ (show 8 ≠ 7 by decide), va_up_twice]
theorem cN_8 (C : Nat → Nat → Int) (bg x y v : Int) : va_up (cN C bg x y) 230 (va_up (cN C bg x y 230) 8 v) = cN C bg x v := by
  unfold cN
  rw [va_up_self, va_up_twice, va_up_twice]
theorem RDy.cN {h : Nat → va_E} {nx : Nat} {C : Nat → Nat → Int} {V : Nat → Value} {I : Nat → Int} {F : Nat → Int → Int} {ca : Nat → Nat} {sa : Nat → Nat → Nat} {own : Nat → Nat} (hD : RDy h nx C V I F ca sa own) (bg x y : Int) : RDy h nx (cN C bg x y) V I F ca sa own := hD
/-- the reference's arrays with another number at a step -/
def fN (F : Nat → Int → Int) (x v : Int) : Nat → Int → Int := va_up F 5 (fu (F 5) x v)
theorem stE_fN (F : Nat → Int → Int) (x v : Int) : stE (fN F x v) x = .inr (5, [.int (iI (F 4 x)), .int (iI (F 6 x)), .int (iI v)]) := by
  show Sum.inr (5, [Value.int (iI (F 4 x)), .int (iI (F 6 x)), .int (iI (fu (F 5) x v x))]) = _
  rw [fu_s]
theorem stE_fN_ne (F : Nat → Int → Int) {x y : Int} (v : Int) (h : y ≠ x) : stE (fN F x v) y = stE F y := by
  show Sum.inr (5, [Value.int (iI (F 4 y)), .int (iI (F 6 y)), .int (iI (fu (F 5) x v y))]) = _
  rw [fu_n h]; rfl
theorem LSl.up {h : Nat → va_E} {nx : Nat} {own : Nat → Nat} {tag : Nat} {v : Value} {n : Int} {el : Nat → Nat} (hl : LSl h nx own tag v n el) {q : Nat} (e : va_E) (hq : own q ≠ tag) : LSl (va_up h q e) nx own tag v n el := by
  rcases hl with z | ⟨a, len, f, e1, e2, e3, e4, e5, e6⟩
  · exact Or.inl z
  · exact Or.inr ⟨a, len, f, e1, e2, e3, e4, by rw [va_up_ne _ _ (fun z => hq (by rw [← z]; exact e4))]; exact e5, e6⟩
theorem RDy.upN {h : Nat → va_E} {nx : Nat} {C : Nat → Nat → Int} {V : Nat → Value} {I : Nat → Int} {F : Nat → Int → Int} {ca : Nat → Nat} {sa : Nat → Nat → Nat} {own : Nat → Nat} (hD : RDy h nx C V I F ca sa own) {c s : Nat} (hc : (c : Int) < I 2) (hs : (s : Int) < F 3 (c : Int)) (hk : F 4 (12 * (c : Int) + (s : Int)) = 0) {v : Int} (hv : 1 ≤ v ∧ v ≤ 40) : RDy (va_up h (sa c s) (stE (fN F (12 * (c : Int) + (s : Int)) v) (12 * (c : Int) + (s : Int)))) nx C V I (fN F (12 * (c : Int) + (s : Int)) v) ca sa own := by
  have hn2 := hD.n2
  obtain ⟨o1, o2, o3, o4⟩ := hD.os c s hc hs
  have hw0 := (hD.wf c (by omega) hc).1
  refine ⟨hD.n1, hD.n2, ?_, hD.lc.up _ (by omega), fun c' hc' => ?_, fun c' hc' => ?_, fun c' s' hc' hs' => ?_, fun x h1 h2 => ?_⟩
  · intro c' h1 h2
    obtain ⟨g1, g2⟩ := hD.wf c' h1 h2
    refine ⟨g1, fun s' h3 h4 => ?_⟩
    obtain ⟨k1, k2, k3, k4, k5⟩ := g2 s' h3 h4
    have g1' : F 3 c' ≤ 12 := g1.2
    by_cases e : 12 * c' + s' = 12 * (c : Int) + (s : Int)
    · show (0 ≤ F 4 (12 * c' + s') ∧ F 4 (12 * c' + s') ≤ 5) ∧ (F 4 (12 * c' + s') = 0 → 1 ≤ fu (F 5) (12 * (c : Int) + (s : Int)) v (12 * c' + s') ∧ fu (F 5) (12 * (c : Int) + (s : Int)) v (12 * c' + s') ≤ 40) ∧ ((F 4 (12 * c' + s') = 3 ∨ F 4 (12 * c' + s') = 5) → 1 ≤ fu (F 5) (12 * (c : Int) + (s : Int)) v (12 * c' + s') ∧ fu (F 5) (12 * (c : Int) + (s : Int)) v (12 * c' + s') ≤ 9) ∧ (F 4 (12 * c' + s') = 4 → 0 ≤ fu (F 5) (12 * (c : Int) + (s : Int)) v (12 * c' + s') ∧ fu (F 5) (12 * (c : Int) + (s : Int)) v (12 * c' + s') < c') ∧ ((F 4 (12 * c' + s') = 0 ∨ F 4 (12 * c' + s') = 1) → 0 ≤ F 6 (12 * c' + s') ∧ F 6 (12 * c' + s') ≤ 7)
      rw [e, fu_s, hk]
      exact ⟨by omega, fun _ => hv, fun z => by omega, fun z => by omega, by rw [e, hk] at k5; exact k5⟩
    · show (0 ≤ F 4 (12 * c' + s') ∧ F 4 (12 * c' + s') ≤ 5) ∧ (F 4 (12 * c' + s') = 0 → 1 ≤ fu (F 5) (12 * (c : Int) + (s : Int)) v (12 * c' + s') ∧ fu (F 5) (12 * (c : Int) + (s : Int)) v (12 * c' + s') ≤ 40) ∧ ((F 4 (12 * c' + s') = 3 ∨ F 4 (12 * c' + s') = 5) → 1 ≤ fu (F 5) (12 * (c : Int) + (s : Int)) v (12 * c' + s') ∧ fu (F 5) (12 * (c : Int) + (s : Int)) v (12 * c' + s') ≤ 9) ∧ (F 4 (12 * c' + s') = 4 → 0 ≤ fu (F 5) (12 * (c : Int) + (s : Int)) v (12 * c' + s') ∧ fu (F 5) (12 * (c : Int) + (s : Int)) v (12 * c' + s') < c') ∧ ((F 4 (12 * c' + s') = 0 ∨ F 4 (12 * c' + s') = 1) → 0 ≤ F 6 (12 * c' + s') ∧ F 6 (12 * c' + s') ≤ 7)
      rw [fu_n e]
      exact ⟨k1, k2, k3, k4, k5⟩
  · obtain ⟨g1, g2, g3, g4, g5⟩ := hD.oc c' hc'
    refine ⟨g1, g2, g3, g4, ?_⟩
    rw [va_up_ne _ _ (fun z => by rw [z] at g3; omega)]
    exact g5
  · obtain ⟨g1, g2, g3, g4, g5⟩ := hD.oc c' hc'
    obtain ⟨m, v', l1, l2⟩ := hD.ol c' hc'
    refine ⟨m, v', ?_, l2.up _ (by omega)⟩
    rw [va_up_ne _ _ (fun z => by rw [z] at g4; omega)]
    exact l1
  · obtain ⟨g1, g2, g3, g4⟩ := hD.os c' s' hc' hs'
    have hw1 := (hD.wf c' (by omega) hc').1
    have hs1 : (s' : Int) < F 3 (c' : Int) := hs'
    refine ⟨g1, g2, g3, ?_⟩
    by_cases e : 12 * c' + s' = 12 * c + s
    · have e1 : sa c' s' = sa c s := by
        have e2 : c' = c := by omega
        have e3 : s' = s := by omega
        rw [e2, e3]
      rw [e1, va_up_self]
      congr 1
      omega
    · rw [va_up_ne _ _ (fun z => by rw [z] at g3; omega), stE_fN_ne F v (by omega)]
      exact g4
  · obtain ⟨g1, g2, g3⟩ := hD.rg x h1 h2
    refine ⟨g1, ?_, g3⟩
    show inR (fu (F 5) _ v x)
    unfold fu
    split
    · exact ⟨by omega, by omega⟩
    · exact g2
