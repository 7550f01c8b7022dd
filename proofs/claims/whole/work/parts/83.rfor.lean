/-! RIVALS: groups, finer groups, forests (by p83.py) -/
def sm {α : Type} (f : α → Int) : List α → Int
  | [] => 0
  | a :: l => f a + sm f l
theorem sm_erase {α : Type} [DecidableEq α] (f : α → Int) {a : α} : ∀ l : List α, a ∈ l → sm f l = f a + sm f (l.erase a) := by
  intro l
  induction l with
  | nil => intro h; exact absurd h (by simp)
  | cons b l ih =>
    intro h
    rw [List.erase_cons]
    by_cases q : b = a
    · rw [if_pos (by simp [q]), q, sm]
    · rw [if_neg (by simp [q]), sm, sm]
      rcases List.mem_cons.mp h with z | z
      · exact absurd z.symm q
      · rw [ih z]; omega
theorem sm_nn {α : Type} {f : α → Int} (hf : ∀ a, 0 ≤ f a) (l : List α) : 0 ≤ sm f l := by
  induction l with
  | nil => exact Int.le_refl 0
  | cons a l ih => have := hf a; rw [sm]; omega
theorem sm_sub {α : Type} [DecidableEq α] {f : α → Int} (hf : ∀ a, 0 ≤ f a) : ∀ l m : List α, l.Nodup → (∀ a ∈ l, a ∈ m) → sm f l ≤ sm f m := by
  intro l
  induction l with
  | nil => intro m _ _; exact sm_nn hf m
  | cons a l ih =>
    intro m hn hs
    rw [List.nodup_cons] at hn
    rw [sm, sm_erase f m (hs a List.mem_cons_self)]
    have := ih (m.erase a) hn.2 (fun b hb => by
      have hne : ¬ b = a := fun z => hn.1 (z ▸ hb)
      exact (List.mem_erase_of_ne hne).mpr (hs b (List.mem_cons_of_mem _ hb)))
    omega
theorem sm_one {α : Type} (l : List α) : sm (fun _ => 1) l = (l.length : Int) := by
  induction l with
  | nil => rfl
  | cons a l ih => rw [sm, ih, List.length_cons]; omega
theorem sm_wL (W : Int → Int) (l : List Ed) : sm (wE W) l = wL W l := by
  induction l with
  | nil => rfl
  | cons a l ih => rw [sm, ih, wL]
theorem len_sub {α : Type} [DecidableEq α] {l m : List α} (hn : l.Nodup) (hs : ∀ a ∈ l, a ∈ m) : l.length ≤ m.length := by
  have := sm_sub (f := fun _ => (1 : Int)) (fun _ => by decide) l m hn hs
  rw [sm_one, sm_one] at this
  omega
def part (v : Nat) (g : Int → Int) : Prop := ∀ i : Int, 0 ≤ i → i < v → (0 ≤ g i ∧ g i < v) ∧ g (g i) = g i
def fixL (g : Int → Int) (s n : Nat) : List Nat := (List.range' s n).filter (fun i => g (i : Int) == (i : Int))
theorem gCt_len (g : Int → Int) : ∀ (n s : Nat) (a : Int), sumA (fun i => b2 (¬ g i = i)) n (s : Int) a = a + n - ((fixL g s n).length : Int) := by
  intro n
  induction n with
  | zero => intro s a; simp [sumA, fixL]
  | succ n ih =>
    intro s a
    have i1 := ih (s + 1)
    rw [show (((s + 1 : Nat)) : Int) = (s : Int) + 1 by omega] at i1
    show sumA _ n ((s : Int) + 1) (a + b2 (¬ g s = s)) = _
    rw [i1]
    unfold fixL
    rw [List.range'_succ, List.filter_cons]
    by_cases q : g (s : Int) = s
    · rw [if_pos (by simp [q]), b2_f (fun z => z q), List.length_cons]; omega
    · rw [if_neg (by simp [q]), b2_t q]; omega
def RF (v : Nat) (g k : Int → Int) : Prop := ∀ i j : Int, (0 ≤ i ∧ i < v) → (0 ≤ j ∧ j < v) → g i = g j → k i = k j
theorem RF_r (v : Nat) (g : Int → Int) : RF v g g := fun _ _ _ _ h => h
theorem RF_t {v : Nat} {g h k : Int → Int} (h1 : RF v g h) (h2 : RF v h k) : RF v g k := fun i j hi hj q => h2 i j hi hj (h1 i j hi hj q)
theorem gCt_RF {v : Nat} {h g : Int → Int} (hh : part v h) (hg : part v g) (hr : RF v h g) : gCt h v ≤ gCt g v := by
  have e1 := gCt_len h v 0 0
  have e2 := gCt_len g v 0 0
  have e3 : ((fixL g 0 v).map (fun (i : Nat) => (h (i : Int)).toNat)).length ≤ (fixL h 0 v).length := by
    refine len_sub ?_ ?_
    · unfold List.Nodup
      rw [List.pairwise_map]
      have hn : (fixL g 0 v).Nodup := List.Pairwise.filter _ List.nodup_range'
      refine List.Pairwise.imp_of_mem ?_ hn
      intro a b ha hb hab q
      unfold fixL at ha hb
      rw [List.mem_filter, List.mem_range'_1] at ha hb
      have a1 := hh a (by omega) (by omega)
      have b1 := hh b (by omega) (by omega)
      have q2 : h a = h b := by omega
      have q3 := hr a b (by omega) (by omega) q2
      have a2 : g a = a := by simpa using ha.2
      have b2 : g b = b := by simpa using hb.2
      exact hab (by omega)
    · intro a ha
      obtain ⟨i, i1, i2⟩ := List.mem_map.mp ha
      unfold fixL at i1 ⊢
      rw [List.mem_filter, List.mem_range'_1] at i1
      have h1 := hh i (by omega) (by omega)
      rw [List.mem_filter, List.mem_range'_1]
      have i3 : (a : Int) = h i := by omega
      refine ⟨by omega, ?_⟩
      rw [i3, h1.2]
      simp
  rw [List.length_map] at e3
  show sumA (fun i => b2 (¬ h i = i)) v 0 0 ≤ sumA (fun i => b2 (¬ g i = i)) v 0 0
  have e1' : sumA (fun i => b2 (¬ h i = i)) v 0 0 = _ := e1
  have e2' : sumA (fun i => b2 (¬ g i = i)) v 0 0 = _ := e2
  omega
theorem jn_at {v : Nat} {x y i : Int} {f : Int → Int} (h : 0 ≤ i ∧ i < v) : joinA x y v 0 f i = if f i = x then y else f i := by
  rw [joinA_at]
  by_cases q : f i = x
  · rw [if_pos ⟨by omega, q⟩, if_pos q]
  · rw [if_neg (fun z => q z.2), if_neg q]
theorem RF_J1 {v : Nat} {h k : Int → Int} {a b : Int} (ha : 0 ≤ a ∧ a < v) (hb : 0 ≤ b ∧ b < v) (hr : RF v h k) : RF v (joinA (h b) (h a) v 0 h) (joinA (k b) (k a) v 0 k) := fun i j hi hj q => by
  rw [jn_at hi, jn_at hj] at q
  rw [jn_at hi, jn_at hj]
  have r1 := hr i b hi hb
  have r2 := hr j b hj hb
  have r3 := hr i j hi hj
  have r4 := hr a j ha hj
  have r5 := hr i a hi ha
  by_cases c1 : h i = h b
  · rw [if_pos c1] at q
    by_cases c2 : h j = h b
    · have := r1 c1; have := r2 c2
      rw [if_pos (r1 c1), if_pos (r2 c2)]
    · rw [if_neg c2] at q
      have := r4 q; have := r1 c1
      (repeat' split) <;> omega
  · rw [if_neg c1] at q
    by_cases c2 : h j = h b
    · rw [if_pos c2] at q
      have := r5 q; have := r2 c2
      (repeat' split) <;> omega
    · rw [if_neg c2] at q
      rw [r3 q]
theorem RF_J2 {v : Nat} {h k : Int → Int} {x y : Int} (hr : RF v h k) : RF v h (joinA x y v 0 k) := fun i j hi hj q => by
  rw [jn_at hi, jn_at hj, hr i j hi hj q]
theorem RF_J3 {v : Nat} {h k : Int → Int} {a b : Int} (ha : 0 ≤ a ∧ a < v) (hb : 0 ≤ b ∧ b < v) (hr : RF v h k) (e : k a = k b) : RF v (joinA (h b) (h a) v 0 h) k := fun i j hi hj q => by
  rw [jn_at hi, jn_at hj] at q
  have r1 := hr i b hi hb
  have r2 := hr j b hj hb
  have r3 := hr i j hi hj
  have r4 := hr a j ha hj
  have r5 := hr i a hi ha
  by_cases c1 : h i = h b
  · rw [if_pos c1] at q
    by_cases c2 : h j = h b
    · have := r1 c1; have := r2 c2; omega
    · rw [if_neg c2] at q
      have := r4 q; have := r1 c1; omega
  · rw [if_neg c1] at q
    by_cases c2 : h j = h b
    · rw [if_pos c2] at q
      have := r5 q; have := r2 c2; omega
    · rw [if_neg c2] at q
      exact r3 q
theorem part_J {v : Nat} {g : Int → Int} {a b : Int} (hg : part v g) (ha : 0 ≤ a ∧ a < v) (hb : 0 ≤ b ∧ b < v) (hne : ¬ g a = g b) : part v (joinA (g b) (g a) v 0 g) ∧ gCt (joinA (g b) (g a) v 0 g) v = gCt g v + 1 := by
  have h := gInv_J (far := 0) (t := (g, (fun _ => 0), gCt g v, 0)) ⟨hg, rfl⟩ ha hb hne
  exact ⟨h.1.1, h.1.2⟩
theorem part_id (v : Nat) : part v gId := fun i h1 h2 => ⟨⟨h1, h2⟩, rfl⟩
theorem gCt_id (v : Nat) : gCt gId v = 0 := by
  unfold gCt
  rw [sumA_cong (f := fun i => b2 (¬ gId i = i)) (h := fun _ => 0) v 0 0 (fun j _ _ => b2_f (fun z => z rfl))]
  have := sumA_bd (f := fun _ => (0 : Int)) (lo := 0) (hi := 0) v 0 0 (fun j _ _ => by omega)
  omega
theorem forest {v : Nat} {g : Int → Int} (hg : part v g) (q : Ed → Bool) : ∀ (l : List Ed) (h k : Int → Int), part v h → RF v h k → RF v h g → inV v l → acG v l k = true → (∀ e ∈ l, q e = true → g (e.1 : Int) = g (e.2 : Int)) → ((l.filter q).length : Int) + gCt h v ≤ gCt g v := by
  intro l
  induction l with
  | nil =>
    intro h k hh _ hr _ _ _
    have := gCt_RF hh hg hr
    simp only [List.filter_nil, List.length_nil]
    omega
  | cons e l ih =>
    intro h k hh hk hr hl hac hq
    obtain ⟨hv, hl2⟩ := inV_c hl
    have ha : 0 ≤ (e.1 : Int) ∧ (e.1 : Int) < v := by omega
    have hb : 0 ≤ (e.2 : Int) ∧ (e.2 : Int) < v := by omega
    unfold acG at hac
    simp only [Bool.and_eq_true, Bool.not_eq_true', beq_eq_false_iff_ne, ne_eq] at hac
    rw [List.filter_cons]
    by_cases c : q e = true
    · rw [if_pos c, List.length_cons]
      have hne : ¬ h e.1 = h e.2 := fun z => hac.1 (hk _ _ ha hb z)
      have hj := part_J hh ha hb hne
      have := ih _ _ hj.1 (RF_J1 ha hb hk) (RF_J3 ha hb hr (hq e List.mem_cons_self c)) hl2 hac.2 (fun x hx => hq x (List.mem_cons_of_mem _ hx))
      omega
    · rw [if_neg c]
      exact ih h _ hh (RF_J2 hk) hr hl2 hac.2 (fun x hx => hq x (List.mem_cons_of_mem _ hx))
