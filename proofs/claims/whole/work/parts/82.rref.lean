/-! RIVALS: the reference counts sets of pairs (by p82.py) -/
def bl : Nat → Nat → Nat → List Nat
  | 0, _, _ => []
  | n + 1, p, x => if x % 2 = 0 then bl n (p + 1) (x / 2) else p :: bl n (p + 1) (x / 2)
/-- pairs that join groups that are apart, one after another -/
def acG (v : Nat) : List Ed → (Int → Int) → Bool
  | [], _ => true
  | e :: l, g => ! (g (e.1 : Int) == g (e.2 : Int)) && acG v l (joinA (g (e.2 : Int)) (g (e.1 : Int)) v 0 g)
def inV (v : Nat) (l : List Ed) : Prop := ∀ e ∈ l, e.1 < v ∧ e.2 < v
theorem inV_c {v : Nat} {e : Ed} {l : List Ed} (h : inV v (e :: l)) : (e.1 < v ∧ e.2 < v) ∧ inV v l := ⟨h e List.mem_cons_self, fun x hx => h x (List.mem_cons_of_mem _ hx)⟩
def agV (v : Nat) (g k : Int → Int) : Prop := ∀ i : Nat, i < v → g (i : Int) = k (i : Int)
theorem agV_j {v : Nat} {g k : Int → Int} (h : agV v g k) (x y : Int) : agV v (joinA x y v 0 g) (joinA x y v 0 k) := fun i hi => by
  rw [joinA_at, joinA_at, h i hi]
theorem acG_ag {v : Nat} : ∀ (l : List Ed) (g k : Int → Int), inV v l → agV v g k → acG v l g = acG v l k := by
  intro l
  induction l with
  | nil => intro g k _ _; rfl
  | cons e l ih =>
    intro g k hl h
    obtain ⟨h1, h2⟩ := inV_c hl
    unfold acG
    rw [h _ h1.1, h _ h1.2, ih _ _ h2 (agV_j h _ _)]
theorem agV_id (v : Nat) (g k : Int → Int) : agV v (idA v 0 g) (idA v 0 k) := fun i hi => by
  rw [idA_at, idA_at, if_pos (by omega), if_pos (by omega)]
theorem bl_mem : ∀ (n p x j : Nat), j ∈ bl n p x → p ≤ j ∧ j < p + n := by
  intro n
  induction n with
  | zero => intro p x j h; exact absurd h (by simp [bl])
  | succ n ih =>
    intro p x j h
    unfold bl at h
    split at h
    · have := ih _ _ _ h; omega
    · rcases List.mem_cons.mp h with z | z
      · omega
      · have := ih _ _ _ z; omega
theorem itA_ac {W A B : Int → Int} {v : Nat} {pr : Nat → Ed} {s N : Nat} (hA : ∀ j : Nat, j < N → A (j : Int) = ((pr j).1 : Int) ∧ B (j : Int) = ((pr j).2 : Int)) : ∀ (n p : Nat) (left : Int) (g : Int → Int), p + n = N → (itA W A B (s : Int) v n (p : Int) left g).1 = if acG v ((bl n p (s / 2 ^ p)).map pr) g = true ∧ wL W ((bl n p (s / 2 ^ p)).map pr) = left then 1 else 0 := by
  intro n
  induction n with
  | zero =>
    intro p left g _
    show b2 (left = 0) = _
    unfold bl
    simp only [List.map_nil, acG, wL, true_and]
    by_cases c : left = 0
    · rw [if_pos c.symm, b2_t c]
    · rw [if_neg (fun z => c z.symm), b2_f c]
  | succ n ih =>
    intro p left g hN
    have hb : ((s : Int) / 2 ^ ((p : Nat) : Int).toNat % 2 = 0) ↔ (s / 2 ^ p) % 2 = 0 := by
      rw [Int.toNat_natCast, show ((2 : Int) ^ p) = ((2 ^ p : Nat) : Int) by simp]
      omega
    have hd : s / 2 ^ (p + 1) = s / 2 ^ p / 2 := by rw [Nat.pow_succ, Nat.div_div_eq_div_mul]
    have i1 := ih (p + 1)
    rw [hd, show (((p + 1 : Nat)) : Int) = (p : Int) + 1 by omega] at i1
    unfold itA bl
    by_cases c : (s / 2 ^ p) % 2 = 0
    · rw [if_pos (hb.mpr c), if_pos c]
      exact i1 left g (by omega)
    · rw [if_neg (fun z => c (hb.mp z)), if_neg c, List.map_cons]
      have hp := hA p (by omega)
      rw [hp.1, hp.2]
      unfold acG wL wE
      by_cases d : g ((pr p).1 : Int) = g ((pr p).2 : Int)
      · rw [if_pos d, d]
        simp
      · rw [if_neg d, i1 _ _ (by omega)]
        have d2 : (g ((pr p).1 : Int) == g ((pr p).2 : Int)) = false := by simp [d]
        rw [d2]
        simp only [Bool.not_false, Bool.true_and]
        congr 1
        refine propext ⟨fun z => ⟨z.1, by omega⟩, fun z => ⟨z.1, by omega⟩⟩
theorem mcA_bl : ∀ (n p x : Nat) (m : Int), x < 2 ^ n → mcA n (x : Int) m = m + ((bl n p x).length : Int) := by
  intro n
  induction n with
  | zero => intro p x m _; simp [mcA, bl]
  | succ n ih =>
    intro p x m hx
    rw [Nat.pow_succ] at hx
    unfold mcA bl
    have i1 := ih (p + 1) (x / 2)
    by_cases c : (x : Int) ≤ 0
    · rw [if_pos c]
      have e : x = 0 := by omega
      have i2 := i1 m (by omega)
      subst e
      have hz : mcA n ((0 / 2 : Nat) : Int) m = m := by
        cases n with
        | zero => rfl
        | succ n => unfold mcA; rw [if_pos (by simp)]
      rw [hz] at i2
      simpa using i2
    · rw [if_neg c]
      rw [show (x : Int) / 2 = ((x / 2 : Nat) : Int) by omega, i1 _ (by omega)]
      split
      · omega
      · rw [List.length_cons]; omega
theorem bl_more : ∀ (n k p x : Nat), x < 2 ^ n → bl (n + k) p x = bl n p x := by
  intro n
  induction n with
  | zero =>
    intro k
    induction k with
    | zero => intro p x _; rfl
    | succ k ih =>
      intro p x hx
      have e : x = 0 := by simpa using hx
      subst e
      show bl (0 + k + 1) p 0 = []
      unfold bl
      rw [if_pos (by decide)]
      exact ih (p + 1) (0 / 2) (by decide)
  | succ n ih =>
    intro k p x hx
    rw [Nat.pow_succ] at hx
    rw [show n + 1 + k = n + k + 1 by omega]
    unfold bl
    rw [ih k (p + 1) (x / 2) (by omega)]
def gId : Int → Int := fun i => i
theorem agV_i (v : Nat) (g : Int → Int) : agV v (idA v 0 g) gId := fun i hi => by
  rw [idA_at, if_pos (by omega)]
  rfl
def okM (v ps : Nat) (pr : Nat → Ed) (m : Nat) : Bool := (bl ps 0 m).length + 1 == v && acG v ((bl ps 0 m).map pr) gId
theorem rvA_cnt {W A B : Int → Int} {v ps : Nat} {pr : Nat → Ed} {sum : Int} (hps : ps ≤ 15) (hA : ∀ j : Nat, j < ps → (A (j : Int) = ((pr j).1 : Int) ∧ B (j : Int) = ((pr j).2 : Int)) ∧ (pr j).1 < v ∧ (pr j).2 < v) : ∀ (n s : Nat) (r : Int) (g : Int → Int), s + n ≤ 2 ^ ps → (rvA W A B v (ps : Int) sum n (s : Int) r g).1 = r + ((((List.range' s n).filter (okM v ps pr)).map (fun m => wL W ((bl ps 0 m).map pr))).count sum : Nat) := by
  intro n
  induction n with
  | zero => intro s r g _; simp [rvA]
  | succ n ih =>
    intro s r g hs
    have hm : mcA 15 (s : Int) 0 = ((bl ps 0 s).length : Int) := by
      have h1 : s < 2 ^ ps := by omega
      have h2 : 2 ^ ps ≤ 2 ^ 15 := Nat.pow_le_pow_right (by decide) hps
      rw [mcA_bl 15 0 s 0 (by omega)]
      have h3 := bl_more ps (15 - ps) 0 s h1
      rw [show ps + (15 - ps) = 15 by omega] at h3
      rw [h3]
      omega
    have hin : inV v ((bl ps 0 s).map pr) := fun e he => by
      obtain ⟨j, j1, j2⟩ := List.mem_map.mp he
      have j3 := bl_mem _ _ _ _ j1
      rw [← j2]
      exact (hA j (by omega)).2
    unfold rvA
    rw [List.range'_succ, List.filter_cons, hm]
    have hit := itA_ac (W := W) (A := A) (B := B) (v := v) (pr := pr) (s := s) (N := ps) (fun j hj => (hA j hj).1) ps 0 sum (idA v 0 g) (by omega)
    rw [show s / 2 ^ 0 = s by simp, acG_ag _ _ gId hin (agV_i v g)] at hit
    have i2 := fun r g => ih (s + 1) r g (by omega)
    rw [show (((s + 1 : Nat)) : Int) = (s : Int) + 1 by omega] at i2
    have hv0 : ((ps : Int)).toNat = ps := by omega
    by_cases c : ((bl ps 0 s).length : Int) = (v : Int) - 1
    · rw [if_pos c, i2, hv0, show (itA W A B (s : Int) v ps 0 sum (idA v 0 g)).1 = _ from hit]
      by_cases d : acG v ((bl ps 0 s).map pr) gId = true
      · rw [if_pos (show okM v ps pr s = true by unfold okM; rw [d]; simp; omega), List.map_cons, List.count_cons]
        by_cases e : wL W ((bl ps 0 s).map pr) = sum
        · rw [if_pos ⟨d, e⟩, if_pos (by simp [e])]
          omega
        · rw [if_neg (fun z => e z.2), if_neg (by simp [e])]
          omega
      · rw [if_neg (fun z => d z.1), if_neg (show ¬ okM v ps pr s = true by unfold okM; simp [d])]
        omega
    · rw [if_neg c, i2, if_neg (show ¬ okM v ps pr s = true by unfold okM; simp; intro z; omega)]
