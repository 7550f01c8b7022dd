theorem tlt {a b : Nat} (h : Nat.ble (a + 1) b = true) : a < b := Nat.le_of_ble_eq_true h
theorem tle {a b : Nat} (h : Nat.ble a b = true) : a ≤ b := Nat.le_of_ble_eq_true h
theorem z_zret {X : Cx} {l0 : Launch} {g : Gw} {μ : Md} {d mc ms kc ks pc : Nat} {L : List (Option Value)} {σ : Sg} {Q : Option Value → Sg → Prop} {z : Int} (b : BX X l0 g μ d mc ms) (hd : decode μ.2.1 pc = .ok (.ireturn, 1)) (hrt : μ.2.2.2 = some .boolean) (hz : z = 0 ∨ z = 1) (hk : kc ≤ mc) (hs : ks ≤ ms) (hq : Q (some (.int (iI z))) σ) : WW X g μ.2.2.1 (ZQ X g Q mc ms) kc ks pc L [.int (iI z)] σ := by
  refine w_zret b hd hrt ?_ hk hs hq
  rcases hz with rfl | rfl <;> rfl
/-- 1 or 0 -/
def b2 (p : Prop) [Decidable p] : Int := if p then 1 else 0
theorem b2_t {p : Prop} [Decidable p] (h : p) : b2 p = 1 := if_pos h
theorem b2_f {p : Prop} [Decidable p] (h : ¬ p) : b2 p = 0 := if_neg h
theorem b2_01 (p : Prop) [Decidable p] : b2 p = 0 ∨ b2 p = 1 := by unfold b2; split <;> simp
theorem b2_eq0 {p : Prop} [Decidable p] : b2 p = 0 ↔ ¬ p := by unfold b2; split <;> simp [*]
theorem b2_rng (p : Prop) [Decidable p] : 0 ≤ b2 p ∧ b2 p ≤ 1 := by rcases b2_01 p with h | h <;> omega
theorem iv_eq {a b : Int} (h : a = b) : some (Value.int (iI a)) = some (Value.int (iI b)) := by rw [h]
theorem b2_in (p : Prop) [Decidable p] : inR (b2 p) := by rcases b2_01 p with h | h <;> rw [h] <;> decide
section TOOLS
variable {X : Cx} {l0 : Launch} {g : Gw} {μ : Md} {d mc ms : Nat} {Z : State → Prop} {kc ks pc : Nat} {L : List (Option Value)} {st : List Value} {σ : Sg}
theorem z_ifb_eq {p : Prop} [Decidable p] {off : Int} {tgt : Nat} (b : BX X l0 g μ d mc ms) (hd : decode μ.2.1 pc = .ok (.ifCond .eq off, 3)) (ht : (pc : Int) + off = (tgt : Int)) (kt : ¬ p → WW X g μ.2.2.1 Z kc ks tgt L st σ) (kf : p → WW X g μ.2.2.1 Z kc ks (pc + 3) L st σ) : WW X g μ.2.2.1 Z kc ks pc L (.int (iI (b2 p)) :: st) σ := z_if_eq b hd ht (b2_in p) (fun h => kt (b2_eq0.mp h)) (fun h => kf (Decidable.not_not.mp (fun z => h (b2_eq0.mpr z))))
theorem z_ifb_ne {p : Prop} [Decidable p] {off : Int} {tgt : Nat} (b : BX X l0 g μ d mc ms) (hd : decode μ.2.1 pc = .ok (.ifCond .ne off, 3)) (ht : (pc : Int) + off = (tgt : Int)) (kt : p → WW X g μ.2.2.1 Z kc ks tgt L st σ) (kf : ¬ p → WW X g μ.2.2.1 Z kc ks (pc + 3) L st σ) : WW X g μ.2.2.1 Z kc ks pc L (.int (iI (b2 p)) :: st) σ := z_if_ne b hd ht (b2_in p) (fun h => kt (Decidable.not_not.mp (fun z => h (b2_eq0.mpr z)))) (fun h => kf (b2_eq0.mp h))
end TOOLS
/-! loops as functions: n rounds from i on, with what has come together -/
def sumA (f : Int → Int) : Nat → Int → Int → Int
  | 0, _, a => a
  | n + 1, i, a => sumA f n (i + 1) (a + f i)
theorem sumA_acc (f : Int → Int) : ∀ (n : Nat) (i a : Int), sumA f n i a = a + sumA f n i 0 := by
  intro n
  induction n with
  | zero => intro i a; simp [sumA]
  | succ n ih => intro i a; simp only [sumA]; rw [ih (i + 1) (a + f i), ih (i + 1) (0 + f i)]; omega
theorem sumA_cong {f h : Int → Int} : ∀ (n : Nat) (i a : Int), (∀ j, i ≤ j → j < i + n → f j = h j) → sumA f n i a = sumA h n i a := by
  intro n
  induction n with
  | zero => intro i a _; rfl
  | succ n ih =>
    intro i a hj
    simp only [sumA]
    rw [hj i (by omega) (by omega)]
    exact ih (i + 1) _ (fun j h1 h2 => hj j (by omega) (by omega))
theorem sumA_bd {f : Int → Int} {lo hi : Int} : ∀ (n : Nat) (i a : Int), (∀ j, i ≤ j → j < i + n → lo ≤ f j ∧ f j ≤ hi) → a + n * lo ≤ sumA f n i a ∧ sumA f n i a ≤ a + n * hi := by
  intro n
  induction n with
  | zero => intro i a _; simp [sumA]
  | succ n ih =>
    intro i a hj
    simp only [sumA]
    have h1 := hj i (by omega) (by omega)
    have h2 := ih (i + 1) (a + f i) (fun j h1 h2 => hj j (by omega) (by omega))
    have e1 : ((n + 1 : Nat) : Int) * lo = n * lo + lo := by rw [Int.natCast_add, Int.add_mul]; omega
    have e2 : ((n + 1 : Nat) : Int) * hi = n * hi + hi := by rw [Int.natCast_add, Int.add_mul]; omega
    omega
/-- the hand at a place: strips s, from hand h with end e on -/
def hfA (s : Int → Int) (p : Int) : Nat → Int → Int → Int
  | 0, h, _ => h
  | n + 1, h, e => if p < e then h else hfA s p n (h + 1) (e + s (h + 1))
def handF (s : Int → Int) (p : Int) : Int := hfA s p 5 0 (s 0)
theorem hfA_rng (s : Int → Int) (p : Int) : ∀ (n : Nat) (h e : Int), h ≤ hfA s p n h e ∧ hfA s p n h e ≤ h + n := by
  intro n
  induction n with
  | zero => intro h e; simp [hfA]
  | succ n ih =>
    intro h e
    unfold hfA
    split
    · omega
    · have := ih (h + 1) (e + s (h + 1))
      omega
theorem handF_rng (s : Int → Int) (p : Int) : 0 ≤ handF s p ∧ handF s p ≤ 5 := by
  have := hfA_rng s p 5 0 (s 0)
  unfold handF
  omega
/-- all of n, from c on -/
def allA (p : Int → Prop) [DecidablePred p] : Nat → Int → Int → Int
  | 0, _, e => e
  | n + 1, c, e => allA p n (c + 1) (b2 (¬ e = 0 ∧ p c))
/-- knots, changes of a hand -/
def mnA (s k : Int → Int) (h : Int) : Nat → Int → Int → Int → Int → Int × Int
  | 0, _, n, c, _ => (n, c)
  | m + 1, i, n, c, l => if handF s i = h then mnA s k h m (i + 1) (n + 1) (c + b2 (0 ≤ l ∧ ¬ k i = l)) (k i) else mnA s k h m (i + 1) n c l
/-- fills n places from a on -/
def fillA (v : Int) : Nat → Int → (Int → Int) → Int → Int
  | 0, _, f => f
  | n + 1, a, f => fillA v n (a + 1) (fu f a v)
/-- who is of the group 'from' goes to the group 'to' -/
def joinA (x y : Int) : Nat → Int → (Int → Int) → Int → Int
  | 0, _, f => f
  | n + 1, v, f => joinA x y n (v + 1) (if f v = x then fu f v y else f)
/-- the way with the fewest units: x of a from x down to 0 -/
def wayA (n a c : Int) : Nat → Int → Int → Int → Int
  | 0, _, best, _ => best
  | m + 1, x, best, least => if (n - x * a) % c = 0 ∧ x + (n - x * a) / c < least then wayA n a c m (x - 1) (1000 * x + (n - x * a) / c) (x + (n - x * a) / c) else wayA n a c m (x - 1) best least
theorem ww_forget {X : Cx} {g : Gw} {nL : Nat} {Z : State → Prop} {kc ks pc : Nat} {L : List (Option Value)} {st : List Value} {σ : Sg} (i : Nat) (kk : WW X g nL Z kc ks pc (L.set i none) st σ) : WW X g nL Z kc ks pc L st σ := by
  obtain ⟨p, l, e, R, s, m, args, below, meth, c⟩ := X
  intro H locs ls hP hS hL
  refine kk H locs ls hP hS ⟨hL.1, by rw [List.length_set]; exact hL.2.1, hL.2.2.1, fun j v hj => ?_⟩
  by_cases h : i = j
  · subst h
    by_cases h2 : i < L.length
    · rw [List.getElem?_set_self h2] at hj
      cases hj
    · rw [List.getElem?_eq_none (by rw [List.length_set]; omega)] at hj
      cases hj
  · rw [List.getElem?_set_ne h] at hj
    exact hL.2.2.2 j v hj
theorem ww_cast {X : Cx} {g : Gw} {nL : Nat} {Z : State → Prop} {kc ks pc : Nat} {L L' : List (Option Value)} {st st' : List Value} {σ σ' : Sg} (hL : L = L') (hst : st = st') (hσ : σ = σ') (kk : WW X g nL Z kc ks pc L' st' σ') : WW X g nL Z kc ks pc L st σ := by rw [hL, hst, hσ]; exact kk
theorem allA_01 (p : Int → Prop) [DecidablePred p] : ∀ (n : Nat) (c e : Int), (e = 0 ∨ e = 1) → allA p n c e = 0 ∨ allA p n c e = 1 := by
  intro n
  induction n with
  | zero => intro c e h; exact h
  | succ n ih => intro c e _; exact ih (c + 1) _ (b2_01 _)
theorem va_up_same {α : Type} (f : Nat → α) (k : Nat) : va_up f k (f k) = f := by
  funext j
  by_cases h : j = k
  · subst h; rw [va_up_self]
  · rw [va_up_ne _ _ h]
theorem va_up_twice {α : Type} (f : Nat → α) (k : Nat) (v w : α) : va_up (va_up f k v) k w = va_up f k w := bx_uu f k v w
theorem fu_inR {f : Int → Int} {N v y : Int} (h : ∀ j, 0 ≤ j → j < N → inR (f j)) (hy : inR y) : ∀ j, 0 ≤ j → j < N → inR (fu f v y j) := by
  intro j h1 h2
  by_cases e : j = v
  · rw [e, fu_s]; exact hy
  · rw [fu_n e]; exact h j h1 h2
