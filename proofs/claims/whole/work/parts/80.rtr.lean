/-! RIVALS: the class's sums over lists of trees (by p80.py) -/
/-- m is the least of L and c times there -/
def Mn (L : List Int) (m c : Int) : Prop := (∀ x ∈ L, m ≤ x) ∧ (L.count m : Int) = c ∧ 0 < c
def MnE (L : List Int) (m c : Int) : Prop := (L = [] ∧ m = 64 ∧ c = 0) ∨ Mn L m c
def mnP (x t : Int) (q : Int × Int) : Int × Int := if x < q.1 then (x, t) else if x = q.1 then (q.1, q.2 + t) else q
theorem cnt0 {L : List Int} {m x : Int} (h : ∀ y ∈ L, m ≤ y) (hx : x < m) : L.count x = 0 := by
  rw [List.count_eq_zero]
  intro q
  have := h x q
  omega
theorem Mn_add {L Q : List Int} {q : Int × Int} {x t : Int} (h : MnE L q.1 q.2) (hq : Mn Q x t) (hx : x < 64) : Mn (L ++ Q) (mnP x t q).1 (mnP x t q).2 := by
  obtain ⟨q1, q2, q3⟩ := hq
  unfold mnP
  rcases h with ⟨e, e1, e2⟩ | ⟨h1, h2, h3⟩
  · rw [if_pos (by omega), e, List.nil_append]
    exact ⟨q1, q2, q3⟩
  · split
    · rename_i hc
      refine ⟨fun y hy => ?_, ?_, q3⟩
      · rcases List.mem_append.mp hy with z | z
        · have := h1 y z; show x ≤ y; omega
        · exact q1 y z
      · show ((L ++ Q).count x : Int) = t
        rw [List.count_append, cnt0 h1 hc]
        omega
    · split
      · rename_i hc
        refine ⟨fun y hy => ?_, ?_, by show 0 < q.2 + t; omega⟩
        · rcases List.mem_append.mp hy with z | z
          · exact h1 y z
          · have := q1 y z; show q.1 ≤ y; omega
        · show ((L ++ Q).count q.1 : Int) = q.2 + t
          rw [List.count_append]
          rw [hc] at q2
          omega
      · rename_i hc1 hc2
        refine ⟨fun y hy => ?_, ?_, h3⟩
        · rcases List.mem_append.mp hy with z | z
          · exact h1 y z
          · have := q1 y z; show q.1 ≤ y; omega
        · show ((L ++ Q).count q.1 : Int) = q.2
          rw [List.count_append, cnt0 q1 (by omega)]
          omega
theorem cnt_map {L : List Int} {m : Int} (a e : Int) : (L.map (fun b => a + b + e)).count (a + m + e) = L.count m := by
  induction L with
  | nil => rfl
  | cons b L ih =>
    rw [List.map_cons, List.count_cons, List.count_cons, ih]
    by_cases q : b = m
    · rw [q]; simp
    · have q2 : ¬ a + b + e = a + m + e := by omega
      simp [q, q2]
theorem cnt_prod {L2 : List Int} {m1 m2 e : Int} (h2 : ∀ y ∈ L2, m2 ≤ y) : ∀ L1 : List Int, (∀ y ∈ L1, m1 ≤ y) → (L1.flatMap (fun a => L2.map (fun b => a + b + e))).count (m1 + m2 + e) = L1.count m1 * L2.count m2 := by
  intro L1
  induction L1 with
  | nil => intro _; simp
  | cons a L ih =>
    intro h1
    rw [List.flatMap_cons, List.count_append, ih (fun y hy => h1 y (List.mem_cons_of_mem _ hy)), List.count_cons, Nat.add_mul]
    by_cases q : a = m1
    · rw [q, cnt_map]
      simp
      omega
    · have hz : (L2.map (fun b => a + b + e)).count (m1 + m2 + e) = 0 := by
        rw [List.count_eq_zero]
        intro z
        obtain ⟨y, y1, y2⟩ := List.mem_map.mp z
        have := h2 y y1
        have := h1 a List.mem_cons_self
        omega
      rw [hz]
      simp [q]
theorem Mn_prod {L1 L2 : List Int} {m1 m2 c1 c2 e : Int} (h1 : Mn L1 m1 c1) (h2 : Mn L2 m2 c2) : Mn (L1.flatMap (fun a => L2.map (fun b => a + b + e))) (m1 + m2 + e) (c1 * c2) := by
  obtain ⟨a1, a2, a3⟩ := h1
  obtain ⟨b1, b2, b3⟩ := h2
  refine ⟨fun x hx => ?_, ?_, Int.mul_pos a3 b3⟩
  · obtain ⟨a, ha, hx⟩ := List.mem_flatMap.mp hx
    obtain ⟨b, hb, hx⟩ := List.mem_map.mp hx
    have := a1 a ha
    have := b1 b hb
    omega
  · rw [cnt_prod b1 L1 a1, ← a2, ← b2]
    simp
theorem Mn_mem {L : List Int} {m c : Int} (h : Mn L m c) : m ∈ L := by
  have h1 := h.2.1
  have h2 := h.2.2
  exact List.count_pos_iff.mp (by omega)
/-! the trees of a set, as lists of pairs of villages -/
abbrev Ed : Type := Nat × Nat
def wE (W : Int → Int) (e : Ed) : Int := apF (W e.1) (W e.2)
def wL (W : Int → Int) : List Ed → Int
  | [] => 0
  | e :: l => wE W e + wL W l
theorem wL_app (W : Int → Int) (l m : List Ed) : wL W (l ++ m) = wL W l + wL W m := by
  induction l with
  | nil => simp [wL]
  | cons e l ih => rw [List.cons_append, wL, wL, ih]; omega
theorem wE_rng (W : Int → Int) (e : Ed) : 0 ≤ wE W e ∧ wE W e ≤ 8 := apF_rng _ _
theorem wL_rng (W : Int → Int) (l : List Ed) : 0 ≤ wL W l ∧ wL W l ≤ 8 * l.length := by
  induction l with
  | nil => simp [wL]
  | cons e l ih =>
    have := wE_rng W e
    rw [wL, List.length_cons]
    omega
def foN (s : Nat) : Nat := if s % 2 = 1 then 0 else if s / 2 % 2 = 1 then 1 else if s / 4 % 2 = 1 then 2 else if s / 8 % 2 = 1 then 3 else if s / 16 % 2 = 1 then 4 else if s / 32 % 2 = 1 then 5 else 0
def bts (s : Nat) : List Nat := (List.range' 0 6).filter (fun v => ! (s &&& 2 ^ v == 0))
def brs (s : Nat) : List Nat := (List.range' (2 ^ foN (s - 2 ^ foN s)) (s - 2 ^ foN s + 1 - 2 ^ foN (s - 2 ^ foN s))).filter (fun e => e &&& (s - 2 ^ foN s) == e && ! (e &&& 2 ^ foN (s - 2 ^ foN s) == 0))
def TQ (root v : Nat) (T1 T2 : List (List Ed)) : List (List Ed) := T1.flatMap (fun a => T2.map (fun b => (root, v) :: (a ++ b)))
def TR : Nat → Nat → List (List Ed)
  | 0, _ => []
  | f + 1, s => if (bts s).length ≤ 1 then [[]] else (brs s).flatMap (fun e => (bts e).flatMap (fun v => TQ (foN s) v (TR f e) (TR f (s - e))))
theorem fo_at : ∀ n : Fin 64, foA (n.val : Int) 6 0 = (foN n.val : Int) := by decide +kernel
theorem foA_N {s : Nat} (h : s < 64) : foA (s : Int) 6 0 = (foN s : Int) := fo_at ⟨s, h⟩
theorem bc_at : ∀ n : Fin 64, bcF (n.val : Int) = ((bts n.val).length : Int) := by decide +kernel
theorem bcF_N {s : Nat} (h : s < 64) : bcF (s : Int) = ((bts s).length : Int) := bc_at ⟨s, h⟩
theorem fo_le_at : ∀ n : Fin 64, 0 < n.val → 2 ^ foN n.val ≤ n.val := by decide +kernel
theorem TQ_w (W : Int → Int) (root v : Nat) (T1 T2 : List (List Ed)) : (TQ root v T1 T2).map (wL W) = (T1.map (wL W)).flatMap (fun a => (T2.map (wL W)).map (fun b => a + b + wE W (root, v))) := by
  unfold TQ
  induction T1 with
  | nil => rfl
  | cons a T ih =>
    rw [List.flatMap_cons, List.map_append, ih, List.map_cons, List.flatMap_cons, List.map_map, List.map_map]
    congr 1
    apply List.map_congr_left
    intro b _
    show wL W ((root, v) :: (a ++ b)) = wL W a + wL W b + wE W (root, v)
    rw [wL, wL_app]
    omega
theorem adT_at (s x t : Int) (p : SP) : ((adT s x t p).1 s, (adT s x t p).2 s) = mnP x t (p.1 s, p.2 s) := by
  unfold adT mnP
  split
  · show (fu p.1 s x s, fu (fu p.2 s 0) s (fu p.2 s 0 s + t) s) = _
    rw [fu_s, fu_s, fu_s, Int.zero_add]
  · split
    · show (p.1 s, fu p.2 s (p.2 s + t) s) = _
      rw [fu_s]
    · rfl
theorem adT_ne {s x t j : Int} (p : SP) (h : ¬ j = s) : (adT s x t p).1 j = p.1 j ∧ (adT s x t p).2 j = p.2 j := by
  unfold adT
  split
  · show fu p.1 s x j = _ ∧ fu (fu p.2 s 0) s (fu p.2 s 0 s + t) j = _
    rw [fu_n h, fu_n h, fu_n h]
    exact ⟨rfl, rfl⟩
  · split
    · show p.1 j = _ ∧ fu p.2 s (p.2 s + t) j = _
      rw [fu_n h]
      exact ⟨rfl, rfl⟩
    · exact ⟨rfl, rfl⟩
/-- the set's own pair of numbers tells L's trees -/
def St (W : Int → Int) (s : Int) (L : List (List Ed)) (p : SP) : Prop := MnE (L.map (wL W)) (p.1 s) (p.2 s)
theorem St_ad {W : Int → Int} {s x t : Int} {L Q : List (List Ed)} {p : SP} (h : St W s L p) (hq : Mn (Q.map (wL W)) x t) (hx : x < 64) : St W s (L ++ Q) (adT s x t p) := by
  have h1 := Mn_add (q := (p.1 s, p.2 s)) h hq hx
  have h2 := adT_at s x t p
  have e1 : (adT s x t p).1 s = (mnP x t (p.1 s, p.2 s)).1 := congrArg Prod.fst h2
  have e2 : (adT s x t p).2 s = (mnP x t (p.1 s, p.2 s)).2 := congrArg Prod.snd h2
  refine .inr ?_
  rw [e1, e2, List.map_append]
  exact h1
theorem bit_N (e v : Nat) : (zn (e : Int) (2 ^ ((v : Nat) : Int).toNat) = 0) ↔ (e &&& 2 ^ v) = 0 := by
  unfold zn
  have h1 : ((2 : Int) ^ ((v : Nat) : Int).toNat).toNat = 2 ^ v := by
    rw [Int.toNat_natCast, show ((2 : Int) ^ v) = ((2 ^ v : Nat) : Int) by simp, Int.toNat_natCast]
  rw [h1, Int.toNat_natCast]
  omega
theorem lb_T {W : Int → Int} {s root e : Nat} {x t : Int} {T1 T2 : List (List Ed)} (hM : ∀ v, Mn ((TQ root v T1 T2).map (wL W)) (x + apF (W root) (W v)) t) (hx : ∀ v ∈ bts e, x + apF (W (root : Int)) (W ((v : Nat) : Int)) < 64) : ∀ (n v : Nat) (L : List (List Ed)) (p : SP), v + n = 6 → St W s L p → St W s (L ++ ((List.range' v n).filter (fun v => ! (e &&& 2 ^ v == 0))).flatMap (fun v => TQ root v T1 T2)) (lbA W s root e x t n v p) ∧ (∀ j : Int, ¬ j = s → (lbA W s root e x t n v p).1 j = p.1 j ∧ (lbA W s root e x t n v p).2 j = p.2 j) := by
  intro n
  induction n with
  | zero => intro v L p _ h; simp [lbA]; exact h
  | succ n ih =>
    intro v L p hv h
    unfold lbA
    rw [List.range'_succ, List.filter_cons]
    by_cases c : e &&& 2 ^ v = 0
    · rw [if_pos ((bit_N e v).mpr c), if_neg (by simp [c])]
      exact ih (v + 1) L p (by omega) h
    · rw [if_neg (fun z => c ((bit_N e v).mp z)), if_pos (by simp [c]), List.flatMap_cons, ← List.append_assoc]
      have hb : v ∈ bts e := by
        unfold bts
        rw [List.mem_filter]
        exact ⟨by rw [List.mem_range'_1]; omega, by simp [c]⟩
      have h1 := ih (v + 1) (L ++ TQ root v T1 T2) (adT s (x + apF (W root) (W v)) t p) (by omega) (St_ad h (hM v) (hx v hb))
      refine ⟨h1.1, fun j hj => ?_⟩
      have h2 := h1.2 j hj
      have h3 := adT_ne (x := x + apF (W root) (W v)) (t := t) p hj
      exact ⟨h2.1.trans h3.1, h2.2.trans h3.2⟩
