/-! RIVALS: the class's answer counts the least trees (by p81.py) -/
theorem brs_tab : ∀ s : Fin 64, ∀ e ∈ brs s.val, 1 ≤ e ∧ e < s.val ∧ (bts e).length + (bts (s.val - e)).length = (bts s.val).length ∧ 1 ≤ (bts e).length ∧ 1 ≤ (bts (s.val - e)).length := by decide +kernel
theorem bts_le (s : Nat) : (bts s).length ≤ 6 := Nat.le_trans (List.length_filter_le _ _) (by simp)
theorem TR_len : ∀ (f s : Nat), s < 64 → ∀ l ∈ TR f s, l.length + 1 ≤ (bts s).length ∨ l.length = 0 := by
  intro f
  induction f with
  | zero => intro s _ l hl; exact absurd hl (by unfold TR; simp)
  | succ f ih =>
    intro s hs l hl
    unfold TR at hl
    split at hl
    · exact .inr (by rw [List.mem_singleton.mp hl]; rfl)
    · obtain ⟨e, he, hl⟩ := List.mem_flatMap.mp hl
      obtain ⟨v, hv, hl⟩ := List.mem_flatMap.mp hl
      unfold TQ at hl
      obtain ⟨a, ha, hl⟩ := List.mem_flatMap.mp hl
      obtain ⟨b, hb, hl⟩ := List.mem_map.mp hl
      have ht := brs_tab ⟨s, hs⟩ e he
      have hes : e < s := ht.2.1
      have hss : (bts e).length + (bts (s - e)).length = (bts s).length := ht.2.2.1
      have h3 : 1 ≤ (bts e).length := ht.2.2.2.1
      have h4 : 1 ≤ (bts (s - e)).length := ht.2.2.2.2
      have h1 := ih e (by omega) a ha
      have h2 := ih (s - e) (by omega) b hb
      refine .inl ?_
      rw [← hl]
      simp only [List.length_cons, List.length_append]
      omega
theorem cond_N (e r x : Nat) : (zn (e : Int) (r : Int) = (e : Int) ∧ ¬ zn (e : Int) (x : Int) = 0) ↔ (e &&& r == e && ! (e &&& x == 0)) = true := by
  unfold zn
  simp only [Int.toNat_natCast, Bool.and_eq_true, beq_iff_eq, Bool.not_eq_true', beq_eq_false_iff_ne, ne_eq]
  omega
theorem sp_T {W : Int → Int} {s root rest nxt f : Nat} {p0 : SP} (hr : rest < s) (hs : s < 64) (hI : ∀ e : Nat, 1 ≤ e → e < s → Mn ((TR f e).map (wL W)) (p0.1 e) (p0.2 e)) (hlen : ∀ e : Nat, nxt ≤ e → e ≤ rest → (e &&& rest == e && ! (e &&& nxt == 0)) = true → ∀ v ∈ bts e, ∀ l ∈ TQ root v (TR f e) (TR f (s - e)), l.length ≤ 5) (hn : 1 ≤ nxt) : ∀ (n e : Nat) (L : List (List Ed)) (p : SP), nxt ≤ e → e + n = rest + 1 → St W s L p → (∀ j : Int, ¬ j = s → p.1 j = p0.1 j ∧ p.2 j = p0.2 j) → St W s (L ++ ((List.range' e n).filter (fun e => e &&& rest == e && ! (e &&& nxt == 0))).flatMap (fun e => (bts e).flatMap (fun v => TQ root v (TR f e) (TR f (s - e))))) (spA W s root rest nxt n e p) ∧ (∀ j : Int, ¬ j = s → (spA W s root rest nxt n e p).1 j = p0.1 j ∧ (spA W s root rest nxt n e p).2 j = p0.2 j) := by
  intro n
  induction n with
  | zero => intro e L p _ _ h h2; simp [spA]; exact ⟨h, h2⟩
  | succ n ih =>
    intro e L p he hn2 h h2
    unfold spA
    rw [List.range'_succ, List.filter_cons]
    by_cases c : (e &&& rest == e && ! (e &&& nxt == 0)) = true
    · rw [if_pos ((cond_N e rest nxt).mpr c), if_pos c, List.flatMap_cons, ← List.append_assoc]
      have e1 := h2 (e : Int) (by omega)
      have e2 := h2 ((s : Int) - (e : Int)) (by omega)
      have i1 := hI e (by omega) (by omega)
      have i2 := hI (s - e) (by omega) (by omega)
      rw [show (((s - e : Nat)) : Int) = (s : Int) - (e : Int) by omega] at i2
      rw [← e1.1, ← e1.2] at i1
      rw [← e2.1, ← e2.2] at i2
      have hM : ∀ v : Nat, Mn ((TQ root v (TR f e) (TR f (s - e))).map (wL W)) (p.1 e + p.1 ((s : Int) - e) + apF (W root) (W v)) (p.2 e * p.2 ((s : Int) - e)) := fun v => by
        rw [TQ_w]
        exact Mn_prod i1 i2
      have hx : ∀ v ∈ bts e, p.1 e + p.1 ((s : Int) - e) + apF (W (root : Int)) (W ((v : Nat) : Int)) < 64 := fun v hv => by
        obtain ⟨l, l1, l2⟩ := List.mem_map.mp (Mn_mem (hM v))
        have l3 := hlen e he (by omega) c v hv l l1
        have l4 := wL_rng W l
        omega
      have hl := lb_T (s := s) (e := e) hM hx 6 0 L p rfl h
      refine ih (e + 1) _ _ (by omega) (by omega) hl.1 (fun j hj => ?_)
      have q1 := hl.2 j hj
      have q2 := h2 j hj
      exact ⟨q1.1.trans q2.1, q1.2.trans q2.2⟩
    · rw [if_neg (fun z => c ((cond_N e rest nxt).mp z)), if_neg c]
      exact ih (e + 1) L p (by omega) (by omega) h h2
def RI (W : Int → Int) (s : Nat) (p : SP) : Prop := ∀ e f : Nat, 1 ≤ e → e < s → e ≤ f → Mn ((TR f e).map (wL W)) (p.1 e) (p.2 e)
theorem TR_S (f s : Nat) : TR (f + 1) s = if (bts s).length ≤ 1 then [[]] else (brs s).flatMap (fun e => (bts e).flatMap (fun v => TQ (foN s) v (TR f e) (TR f (s - e)))) := rfl
theorem castP (n : Nat) : ((2 : Int) ^ ((n : Nat) : Int).toNat) = ((2 ^ n : Nat) : Int) := by simp
theorem nxt_tab : ∀ s : Fin 64, 2 ^ foN (s.val - 2 ^ foN s.val) ≤ s.val - 2 ^ foN s.val + 1 := by decide +kernel
theorem brs_ne : ∀ s : Fin 64, ¬ (bts s.val).length ≤ 1 → ∃ e ∈ brs s.val, ∃ v ∈ bts e, True := by decide +kernel
theorem flat_ne {α β : Type} {l : List α} {g : α → List β} {a : α} (h : a ∈ l) (hg : ¬ g a = []) : ¬ l.flatMap g = [] := fun z => hg (by
  rw [List.flatMap_eq_nil_iff] at z
  exact z a h)
theorem TR_ne : ∀ (f s : Nat), 1 ≤ s → s < 64 → s ≤ f → ¬ TR f s = [] := by
  intro f
  induction f with
  | zero => intro s h1 _ h; omega
  | succ f ih =>
    intro s h1 h2 h3
    rw [TR_S]
    split
    · simp
    · rename_i hc
      obtain ⟨e, he, v, hv, _⟩ := brs_ne ⟨s, h2⟩ hc
      have ht := brs_tab ⟨s, h2⟩ e he
      have hes : e < s := ht.2.1
      have h5 : 1 ≤ e := ht.1
      refine flat_ne he (flat_ne hv ?_)
      unfold TQ
      cases q1 : TR f e with
      | nil => exact absurd q1 (ih e h5 (by omega) (by omega))
      | cons a T =>
        cases q2 : TR f (s - e) with
        | nil => exact absurd q2 (ih (s - e) (by omega) (by omega) (by omega))
        | cons b T2 => simp
theorem rt_T {W : Int → Int} {s : Nat} {p : SP} (h1 : 1 ≤ s) (h2 : s < 64) (h : RI W s p) : RI W (s + 1) (rtS W s p) := by
  intro e f he hes hef
  unfold rtS
  rw [bcF_N h2, foA_N h2]
  have hne : ∀ j : Int, ¬ j = s → fu p.1 (s : Int) 0 j = p.1 j ∧ fu p.2 (s : Int) 1 j = p.2 j := fun j hj => by rw [fu_n hj, fu_n hj]; exact ⟨rfl, rfl⟩
  split
  · rename_i hc
    by_cases q : e = s
    · subst q
      show Mn _ (fu p.1 (e : Int) 0 e) (fu p.2 (e : Int) 1 e)
      rw [fu_s, fu_s]
      obtain ⟨g, rfl⟩ : ∃ g, f = g + 1 := ⟨f - 1, by omega⟩
      rw [TR_S, if_pos (by omega)]
      refine ⟨fun x hx => ?_, rfl, by decide⟩
      rw [List.map_singleton] at hx
      rw [List.mem_singleton.mp hx]
      exact Int.le_refl _
    · have := hne e (by omega)
      show Mn _ (fu p.1 (s : Int) 0 e) (fu p.2 (s : Int) 1 e)
      rw [this.1, this.2]
      exact h e f he (by omega) hef
  · rename_i hc
    have hc' : ¬ (bts s).length ≤ 1 := by omega
    have hfo : 2 ^ foN s ≤ s := fo_le_at ⟨s, h2⟩ h1
    have hfp : 1 ≤ 2 ^ foN s := Nat.one_le_two_pow
    have hfp2 : 1 ≤ 2 ^ foN (s - 2 ^ foN s) := Nat.one_le_two_pow
    have hnx : 2 ^ foN (s - 2 ^ foN s) ≤ s - 2 ^ foN s + 1 := nxt_tab ⟨s, h2⟩
    unfold spF
    rw [castP, show ((s : Int) - ((2 ^ foN s : Nat) : Int)) = ((s - 2 ^ foN s : Nat) : Int) by omega, foA_N (by omega), castP, show ((((s - 2 ^ foN s : Nat) : Int) + 1 - ((2 ^ foN (s - 2 ^ foN s) : Nat) : Int))).toNat = s - 2 ^ foN s + 1 - 2 ^ foN (s - 2 ^ foN s) by omega]
    have main : ∀ f : Nat, s ≤ f + 1 → _ := fun f hf => sp_T (W := W) (s := s) (root := foN s) (rest := s - 2 ^ foN s) (nxt := 2 ^ foN (s - 2 ^ foN s)) (f := f) (p0 := p) (by omega) h2 (fun e g1 g2 => h e f g1 g2 (by omega)) (fun e g1 g2 g3 v hv l hl => by
        have hb : e ∈ brs s := by
          unfold brs
          rw [List.mem_filter]
          exact ⟨by rw [List.mem_range'_1]; omega, g3⟩
        have hm : l ∈ TR (f + 1) s := by
          rw [TR_S, if_neg hc']
          exact List.mem_flatMap.mpr ⟨e, hb, List.mem_flatMap.mpr ⟨v, hv, hl⟩⟩
        have := TR_len (f + 1) s h2 l hm
        have := bts_le s
        omega) hfp2 (s - 2 ^ foN s + 1 - 2 ^ foN (s - 2 ^ foN s)) (2 ^ foN (s - 2 ^ foN s)) [] (fu (fu p.1 (s : Int) 0) s 64, fu (fu p.2 (s : Int) 1) s 0) (by omega) (by omega) (.inl ⟨rfl, fu_s _ _ _, fu_s _ _ _⟩) (fun j hj => by
        show fu (fu p.1 (s : Int) 0) s 64 j = _ ∧ fu (fu p.2 (s : Int) 1) s 0 j = _
        rw [fu_n hj, fu_n hj, fu_n hj, fu_n hj]
        exact ⟨rfl, rfl⟩)
    by_cases q : e = s
    · subst q
      obtain ⟨g, rfl⟩ : ∃ g, f = g + 1 := ⟨f - 1, by omega⟩
      have hm := (main g (by omega)).1
      rw [List.nil_append] at hm
      have hT : TR (g + 1) e = ((List.range' (2 ^ foN (e - 2 ^ foN e)) (e - 2 ^ foN e + 1 - 2 ^ foN (e - 2 ^ foN e))).filter (fun x => x &&& (e - 2 ^ foN e) == x && ! (x &&& 2 ^ foN (e - 2 ^ foN e) == 0))).flatMap (fun x => (bts x).flatMap (fun v => TQ (foN e) v (TR g x) (TR g (e - x)))) := by
        rw [TR_S, if_neg hc']
        rfl
      rw [← hT] at hm
      rcases hm with z | z
      · exact absurd (List.map_eq_nil_iff.mp z.1) (TR_ne (g + 1) e he h2 hef)
      · exact z
    · have hm := (main 63 (by omega)).2 (e : Int) (by omega)
      rw [hm.1, hm.2]
      exact h e f he (by omega) hef
theorem rtA_T {W : Int → Int} : ∀ (n s : Nat) (p : SP), 1 ≤ s → s + n ≤ 64 → RI W s p → RI W (s + n) (rtA W n s p) := by
  intro n
  induction n with
  | zero => intro s p _ _ h; exact h
  | succ n ih =>
    intro s p h1 h2 h
    have := ih (s + 1) (rtS W s p) (by omega) (by omega) (rt_T h1 (by omega) h)
    rw [show s + (n + 1) = s + 1 + n by omega]
    exact this
theorem riv_T (W : Int → Int) (v : Nat) (hv : 1 ≤ v ∧ v ≤ 6) (p : SP) : ∃ m, Mn ((TR 63 (2 ^ v - 1)).map (wL W)) m ((rtA W (2 ^ v - 1) 1 p).2 (2 ^ v - 1)) := by
  have hp : 2 ≤ 2 ^ v ∧ 2 ^ v ≤ 64 := by
    rcases (show v = 1 ∨ v = 2 ∨ v = 3 ∨ v = 4 ∨ v = 5 ∨ v = 6 by omega) with z | z | z | z | z | z <;> (rw [z]; decide)
  have h := rtA_T (W := W) (2 ^ v - 1) 1 p (by omega) (by omega) (fun e f h1 h2 _ => by omega) (2 ^ v - 1) 63 (by omega) (by omega) (by omega)
  have hc : ((2 ^ v : Nat) : Int) = 2 ^ v := by simp
  have hd : (((2 ^ v - 1 : Nat)) : Int) = (2 : Int) ^ v - 1 := by omega
  rw [hd] at h
  exact ⟨_, h⟩
