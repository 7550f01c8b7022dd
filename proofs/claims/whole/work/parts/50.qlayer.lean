/-! THE CLASS'S LAYER: the cells that its constructor makes, 0 .. 256, by their numbers; C: int fields by cell and field, A: arrays by cell, V: references that change; behind them h (by p50.py) -/
abbrev tKC (w : Nat) : List Value := [.int (iI (w : Int)), .ref 1, .ref 230, .ref 234, .ref 240]
abbrev tCa (w : Nat) (c : Nat → Int) : List Value := [.int (iI (w : Int)), .ref 2, .ref 3, .ref 4, .ref 5, .int (iI (c 5))]
abbrev tWo (q : Nat) (c : Nat → Int) : List Value := [.ref (q + 1), .ref (q + 2), .int (iI (c 2))]
abbrev tRo (q : Nat) (c : Nat → Int) : List Value := [.ref (q + 1), .ref (q + 2), .ref (q + 3), .ref (q + 4), .int (iI (c 4))]
abbrev tCl (w : Nat) (c : Nat → Int) : List Value := [.int (iI (w : Int)), .ref 1, .ref 231, .ref 232, .ref 233, .int (iI (c 5)), .int (iI (c 6)), .int (iI (c 7)), .int (iI (c 8))]
abbrev tLi (c : Nat → Int) (v : Value) : List Value := [.int (iI (c 0)), v, .int (iI (c 2))]
abbrev tVi (c : Nat → Int) : List Value := [.ref 235, .ref 236, .ref 237, .ref 238, .ref 239, .int (iI (c 5)), .int (iI (c 6)), .int (iI (c 7))]
abbrev tSh (q : Nat) (c : Nat → Int) (v : Value) : List Value := [.ref (q + 1), .int (iI (c 1)), .int (iI (c 2)), v]
/-- an array of references: n of type t, at b, b + s, b + 2 s .. -/
def rarr (t n b s : Nat) : va_E := .inl (t, n, .inr (.inr (.inr (.inr (fun k => if k < n then some (b + s * k) else none)))))
def ct (w : Nat) (c : Nat → Int) (a : Int → Int) (v : Value) (q : Nat) : va_E :=
  if q = 0 then .inr (8, tKC w) else if q = 1 then .inr (1, tCa w c) else if q = 2 then iarr 0 6 a else if q = 3 then iarr 0 6 a else if q = 4 then rarr 5 8 6 3 else if q = 5 then rarr 6 40 30 5
  else if q < 30 then (if (q - 6) % 3 = 0 then .inr (7, tWo q c) else iarr 0 10 a) else if q < 230 then (if (q - 30) % 5 = 0 then .inr (3, tRo q c) else iarr 1 w a)
  else if q = 230 then .inr (0, tCl w c) else if q = 231 then .inr (10, tLi c v) else if q = 232 then iarr 1 1000 a else if q = 233 then iarr 0 12 a else if q = 234 then .inr (6, tVi c)
  else if q = 235 then iarr 0 8 a else if q = 236 then iarr 0 8 a else if q = 237 then iarr 0 64 a else if q = 238 then iarr 0 64 a else if q = 239 then iarr 0 8 a else if q = 240 then rarr 7 8 241 2
  else if (q - 241) % 2 = 0 then .inr (4, tSh q c v) else iarr 2 60 a
def cp (w : Nat) (C : Nat → Nat → Int) (A : Nat → Int → Int) (V : Nat → Value) (h : Nat → va_E) : Nat → va_E := fun q => if 257 ≤ q then h q else ct w (C q) (A q) (V q) q
theorem cp_lt {w : Nat} {C : Nat → Nat → Int} {A : Nat → Int → Int} {V : Nat → Value} {h : Nat → va_E} {q : Nat} (hq : q < 257) : cp w C A V h q = ct w (C q) (A q) (V q) q := if_neg (by omega)
theorem cp_ge {w : Nat} {C : Nat → Nat → Int} {A : Nat → Int → Int} {V : Nat → Value} {h : Nat → va_E} {q : Nat} (hq : 257 ≤ q) : cp w C A V h q = h q := if_pos hq
theorem cp_up {w : Nat} {C : Nat → Nat → Int} {A : Nat → Int → Int} {V : Nat → Value} {h : Nat → va_E} {q : Nat} (hq : q < 257) (c : Nat → Int) (a : Int → Int) (v : Value) : va_up (cp w C A V h) q (ct w c a v q) = cp w (va_up C q c) (va_up A q a) (va_up V q v) h := by
  funext j
  by_cases e : j = q
  · subst e
    rw [va_up_self, cp_lt hq, va_up_self, va_up_self, va_up_self]
  · rw [va_up_ne _ _ e]
    unfold cp
    rw [va_up_ne _ _ e, va_up_ne _ _ e, va_up_ne _ _ e]
theorem cp_upC {w : Nat} {C : Nat → Nat → Int} {A : Nat → Int → Int} {V : Nat → Value} {h : Nat → va_E} {q : Nat} (hq : q < 257) (c : Nat → Int) : va_up (cp w C A V h) q (ct w c (A q) (V q) q) = cp w (va_up C q c) A V h := by rw [cp_up hq, va_up_same, va_up_same]
theorem cp_upA {w : Nat} {C : Nat → Nat → Int} {A : Nat → Int → Int} {V : Nat → Value} {h : Nat → va_E} {q : Nat} (hq : q < 257) (a : Int → Int) : va_up (cp w C A V h) q (ct w (C q) a (V q) q) = cp w C (va_up A q a) V h := by rw [cp_up hq, va_up_same, va_up_same]
theorem cp_upV {w : Nat} {C : Nat → Nat → Int} {A : Nat → Int → Int} {V : Nat → Value} {h : Nat → va_E} {q : Nat} (hq : q < 257) (v : Value) : va_up (cp w C A V h) q (ct w (C q) (A q) v q) = cp w C A (va_up V q v) h := by rw [cp_up hq, va_up_same, va_up_same]
theorem cp_uph {w : Nat} {C : Nat → Nat → Int} {A : Nat → Int → Int} {V : Nat → Value} {h : Nat → va_E} {q : Nat} (hq : 257 ≤ q) (e : va_E) : va_up (cp w C A V h) q e = cp w C A V (va_up h q e) := by
  funext j
  by_cases z : j = q
  · subst z
    rw [va_up_self, cp_ge hq, va_up_self]
  · rw [va_up_ne _ _ z]
    unfold cp
    rw [va_up_ne _ _ z]

theorem ct_0 {w : Nat} {c : Nat → Int} {a : Int → Int} {v : Value} : ct w c a v 0 = .inr (8, tKC w) := rfl
theorem ct_1 {w : Nat} {c : Nat → Int} {a : Int → Int} {v : Value} : ct w c a v 1 = .inr (1, tCa w c) := rfl
theorem ct_2 {w : Nat} {c : Nat → Int} {a : Int → Int} {v : Value} : ct w c a v 2 = iarr 0 6 a := rfl
theorem ct_3 {w : Nat} {c : Nat → Int} {a : Int → Int} {v : Value} : ct w c a v 3 = iarr 0 6 a := rfl
theorem ct_4 {w : Nat} {c : Nat → Int} {a : Int → Int} {v : Value} : ct w c a v 4 = rarr 5 8 6 3 := rfl
theorem ct_5 {w : Nat} {c : Nat → Int} {a : Int → Int} {v : Value} : ct w c a v 5 = rarr 6 40 30 5 := rfl
theorem ct_230 {w : Nat} {c : Nat → Int} {a : Int → Int} {v : Value} : ct w c a v 230 = .inr (0, tCl w c) := rfl
theorem ct_231 {w : Nat} {c : Nat → Int} {a : Int → Int} {v : Value} : ct w c a v 231 = .inr (10, tLi c v) := rfl
theorem ct_232 {w : Nat} {c : Nat → Int} {a : Int → Int} {v : Value} : ct w c a v 232 = iarr 1 1000 a := rfl
theorem ct_233 {w : Nat} {c : Nat → Int} {a : Int → Int} {v : Value} : ct w c a v 233 = iarr 0 12 a := rfl
theorem ct_234 {w : Nat} {c : Nat → Int} {a : Int → Int} {v : Value} : ct w c a v 234 = .inr (6, tVi c) := rfl
theorem ct_235 {w : Nat} {c : Nat → Int} {a : Int → Int} {v : Value} : ct w c a v 235 = iarr 0 8 a := rfl
theorem ct_236 {w : Nat} {c : Nat → Int} {a : Int → Int} {v : Value} : ct w c a v 236 = iarr 0 8 a := rfl
theorem ct_237 {w : Nat} {c : Nat → Int} {a : Int → Int} {v : Value} : ct w c a v 237 = iarr 0 64 a := rfl
theorem ct_238 {w : Nat} {c : Nat → Int} {a : Int → Int} {v : Value} : ct w c a v 238 = iarr 0 64 a := rfl
theorem ct_239 {w : Nat} {c : Nat → Int} {a : Int → Int} {v : Value} : ct w c a v 239 = iarr 0 8 a := rfl
theorem ct_240 {w : Nat} {c : Nat → Int} {a : Int → Int} {v : Value} : ct w c a v 240 = rarr 7 8 241 2 := rfl
theorem ct_wool {w : Nat} {c : Nat → Int} {a : Int → Int} {v : Value} {r : Nat} (hr : r < 8) : ct w c a v (6 + 3 * r) = .inr (7, tWo (6 + 3 * r) c) := by
  unfold ct
  rw [if_neg (by omega), if_neg (by omega), if_neg (by omega), if_neg (by omega), if_neg (by omega), if_neg (by omega), if_pos (by omega), if_pos (by omega)]
theorem ct_wool1 {w : Nat} {c : Nat → Int} {a : Int → Int} {v : Value} {r : Nat} (hr : r < 8) : ct w c a v (6 + 3 * r + 1) = iarr 0 10 a := by
  unfold ct
  rw [if_neg (by omega), if_neg (by omega), if_neg (by omega), if_neg (by omega), if_neg (by omega), if_neg (by omega), if_pos (by omega), if_neg (by omega)]
theorem ct_wool2 {w : Nat} {c : Nat → Int} {a : Int → Int} {v : Value} {r : Nat} (hr : r < 8) : ct w c a v (6 + 3 * r + 2) = iarr 0 10 a := by
  unfold ct
  rw [if_neg (by omega), if_neg (by omega), if_neg (by omega), if_neg (by omega), if_neg (by omega), if_neg (by omega), if_pos (by omega), if_neg (by omega)]
theorem ct_row {w : Nat} {c : Nat → Int} {a : Int → Int} {v : Value} {r : Nat} (hr : r < 40) : ct w c a v (30 + 5 * r) = .inr (3, tRo (30 + 5 * r) c) := by
  unfold ct
  rw [if_neg (by omega), if_neg (by omega), if_neg (by omega), if_neg (by omega), if_neg (by omega), if_neg (by omega), if_neg (by omega), if_pos (by omega), if_pos (by omega)]
theorem ct_row1 {w : Nat} {c : Nat → Int} {a : Int → Int} {v : Value} {r : Nat} (hr : r < 40) : ct w c a v (30 + 5 * r + 1) = iarr 1 w a := by
  unfold ct
  rw [if_neg (by omega), if_neg (by omega), if_neg (by omega), if_neg (by omega), if_neg (by omega), if_neg (by omega), if_neg (by omega), if_pos (by omega), if_neg (by omega)]
theorem ct_row2 {w : Nat} {c : Nat → Int} {a : Int → Int} {v : Value} {r : Nat} (hr : r < 40) : ct w c a v (30 + 5 * r + 2) = iarr 1 w a := by
  unfold ct
  rw [if_neg (by omega), if_neg (by omega), if_neg (by omega), if_neg (by omega), if_neg (by omega), if_neg (by omega), if_neg (by omega), if_pos (by omega), if_neg (by omega)]
theorem ct_row3 {w : Nat} {c : Nat → Int} {a : Int → Int} {v : Value} {r : Nat} (hr : r < 40) : ct w c a v (30 + 5 * r + 3) = iarr 1 w a := by
  unfold ct
  rw [if_neg (by omega), if_neg (by omega), if_neg (by omega), if_neg (by omega), if_neg (by omega), if_neg (by omega), if_neg (by omega), if_pos (by omega), if_neg (by omega)]
theorem ct_row4 {w : Nat} {c : Nat → Int} {a : Int → Int} {v : Value} {r : Nat} (hr : r < 40) : ct w c a v (30 + 5 * r + 4) = iarr 1 w a := by
  unfold ct
  rw [if_neg (by omega), if_neg (by omega), if_neg (by omega), if_neg (by omega), if_neg (by omega), if_neg (by omega), if_neg (by omega), if_pos (by omega), if_neg (by omega)]
theorem ct_shelf {w : Nat} {c : Nat → Int} {a : Int → Int} {v : Value} {r : Nat} (hr : r < 8) : ct w c a v (241 + 2 * r) = .inr (4, tSh (241 + 2 * r) c v) := by
  unfold ct
  rw [if_neg (by omega), if_neg (by omega), if_neg (by omega), if_neg (by omega), if_neg (by omega), if_neg (by omega), if_neg (by omega), if_neg (by omega), if_neg (by omega), if_neg (by omega), if_neg (by omega), if_neg (by omega), if_neg (by omega), if_neg (by omega), if_neg (by omega), if_neg (by omega), if_neg (by omega), if_neg (by omega), if_neg (by omega), if_pos (by omega)]
theorem ct_shelf1 {w : Nat} {c : Nat → Int} {a : Int → Int} {v : Value} {r : Nat} (hr : r < 8) : ct w c a v (241 + 2 * r + 1) = iarr 2 60 a := by
  unfold ct
  rw [if_neg (by omega), if_neg (by omega), if_neg (by omega), if_neg (by omega), if_neg (by omega), if_neg (by omega), if_neg (by omega), if_neg (by omega), if_neg (by omega), if_neg (by omega), if_neg (by omega), if_neg (by omega), if_neg (by omega), if_neg (by omega), if_neg (by omega), if_neg (by omega), if_neg (by omega), if_neg (by omega), if_neg (by omega), if_neg (by omega)]
section FWQ
variable {X : Cx} {l0 : Launch} {g : Gw} {μ : Md} {d mc ms : Nat} {Z : State → Prop} {kc ks pc : Nat} {L : List (Option Value)} {st : List Value} {w nx : Nat} {C : Nat → Nat → Int} {A : Nat → Int → Int} {V : Nat → Value} {h : Nat → va_E}
theorem q_get {idx ci k q : Nat} {tm : List Value} {v : Value} (b : BX X l0 g μ d mc ms) (hd : decode μ.2.1 pc = .ok (.getfield idx, 3)) (lk : GF μ.1.cls idx ci k) (hq : q < 257) (hO : ct w (C q) (A q) (V q) q = .inr (ci, tm)) (hv : tm[k]? = some v) (kk : WW X g μ.2.2.1 Z kc ks (pc + 3) L (v :: st) (cp w C A V h, nx)) : WW X g μ.2.2.1 Z kc ks pc L (.ref q :: st) (cp w C A V h, nx) := w_getf b hd lk ((cp_lt hq).trans hO) hv kk
theorem q_put {idx ci k q : Nat} {tm : (Nat → Int) → List Value} {v : Int} (b : BX X l0 g μ d mc ms) (hd : decode μ.2.1 pc = .ok (.putfield idx, 3)) (lk : GF μ.1.cls idx ci k) (gc : GC ci) (gt : GT μ.1.cls ci k .int false) (hq : q < 257) (hO : ∀ c, ct w c (A q) (V q) q = .inr (ci, tm c)) (hl : k < (tm (C q)).length) (hs : (tm (C q)).set k (.int (iI v)) = tm (va_up (C q) k v)) (kk : WW X g μ.2.2.1 Z kc ks (pc + 3) L st (cp w (va_up C q (va_up (C q) k v)) A V h, nx)) : WW X g μ.2.2.1 Z kc ks pc L (.int (iI v) :: .ref q :: st) (cp w C A V h, nx) := by
  refine w_putf b hd lk gc gt (fun z => by cases z) ((cp_lt hq).trans (hO (C q))) hl rfl rfl ?_
  show WW X g μ.2.2.1 Z kc ks (pc + 3) L st (va_up (cp w C A V h) q (.inr (ci, (tm (C q)).set k (.int (iI v)))), nx)
  rw [hs, ← hO, cp_upC hq]
  exact kk
theorem q_putr {idx ci k q : Nat} {tm : Value → List Value} {v : Value} {C0 : String} (b : BX X l0 g μ d mc ms) (hd : decode μ.2.1 pc = .ok (.putfield idx, 3)) (lk : GF μ.1.cls idx ci k) (gc : GC ci) (gt : GT μ.1.cls ci k (.object C0) false) (hq : q < 257) (hO : ∀ v, ct w (C q) (A q) v q = .inr (ci, tm v)) (hl : k < (tm (V q)).length) (hs : (tm (V q)).set k v = tm v) (hn : narrow (.object C0) (cv g v) = cv g v) (hf : fits (.object C0) (cv g v) = true) (kk : WW X g μ.2.2.1 Z kc ks (pc + 3) L st (cp w C A (va_up V q v) h, nx)) : WW X g μ.2.2.1 Z kc ks pc L (v :: .ref q :: st) (cp w C A V h, nx) := by
  refine w_putf b hd lk gc gt (fun z => by cases z) ((cp_lt hq).trans (hO (V q))) hl hn hf ?_
  show WW X g μ.2.2.1 Z kc ks (pc + 3) L st (va_up (cp w C A V h) q (.inr (ci, (tm (V q)).set k v)), nx)
  rw [hs, ← hO, cp_upV hq]
  exact kk
theorem q_iald {q n : Nat} {i : Int} (b : BX X l0 g μ d mc ms) (hd : decode μ.2.1 pc = .ok (.iaload, 1)) (hq : q < 257) (hA : ct w (C q) (A q) (V q) q = iarr 0 n (A q)) (hi : 0 ≤ i ∧ i < (n : Int) ∧ i < 2147483648) (kk : WW X g μ.2.2.1 Z kc ks (pc + 1) L (.int (iI (A q i)) :: st) (cp w C A V h, nx)) : WW X g μ.2.2.1 Z kc ks pc L (.int (iI i) :: .ref q :: st) (cp w C A V h, nx) := z_iald b hd ((cp_lt hq).trans hA) hi kk
theorem q_bald {q n : Nat} {i : Int} (b : BX X l0 g μ d mc ms) (hd : decode μ.2.1 pc = .ok (.baload, 1)) (hq : q < 257) (hA : ct w (C q) (A q) (V q) q = iarr 1 n (A q)) (hi : 0 ≤ i ∧ i < (n : Int) ∧ i < 2147483648) (kk : WW X g μ.2.2.1 Z kc ks (pc + 1) L (.int (iI (A q i)) :: st) (cp w C A V h, nx)) : WW X g μ.2.2.1 Z kc ks pc L (.int (iI i) :: .ref q :: st) (cp w C A V h, nx) := z_bald b hd ((cp_lt hq).trans hA) hi kk
theorem q_sald {q n : Nat} {i : Int} (b : BX X l0 g μ d mc ms) (hd : decode μ.2.1 pc = .ok (.saload, 1)) (hq : q < 257) (hA : ct w (C q) (A q) (V q) q = iarr 2 n (A q)) (hi : 0 ≤ i ∧ i < (n : Int) ∧ i < 2147483648) (kk : WW X g μ.2.2.1 Z kc ks (pc + 1) L (.int (iI (A q i)) :: st) (cp w C A V h, nx)) : WW X g μ.2.2.1 Z kc ks pc L (.int (iI i) :: .ref q :: st) (cp w C A V h, nx) := z_sald b hd ((cp_lt hq).trans hA) hi kk
theorem q_iast {q n : Nat} {i v : Int} (b : BX X l0 g μ d mc ms) (hd : decode μ.2.1 pc = .ok (.iastore, 1)) (hq : q < 257) (hA : ∀ a, ct w (C q) a (V q) q = iarr 0 n a) (hi : 0 ≤ i ∧ i < (n : Int) ∧ i < 2147483648) (kk : WW X g μ.2.2.1 Z kc ks (pc + 1) L st (cp w C (va_up A q (fu (A q) i v)) V h, nx)) : WW X g μ.2.2.1 Z kc ks pc L (.int (iI v) :: .int (iI i) :: .ref q :: st) (cp w C A V h, nx) := by
  refine z_iast b hd ((cp_lt hq).trans (hA _)) hi ?_
  show WW X g μ.2.2.1 Z kc ks (pc + 1) L st (va_up (cp w C A V h) q (iarr 0 n (fu (A q) i v)), nx)
  rw [← hA, cp_upA hq]
  exact kk
theorem q_bast {q n : Nat} {i v : Int} (b : BX X l0 g μ d mc ms) (hd : decode μ.2.1 pc = .ok (.bastore, 1)) (hq : q < 257) (hA : ∀ a, ct w (C q) a (V q) q = iarr 1 n a) (hi : 0 ≤ i ∧ i < (n : Int) ∧ i < 2147483648) (hv : -128 ≤ v ∧ v < 128) (kk : WW X g μ.2.2.1 Z kc ks (pc + 1) L st (cp w C (va_up A q (fu (A q) i v)) V h, nx)) : WW X g μ.2.2.1 Z kc ks pc L (.int (iI v) :: .int (iI i) :: .ref q :: st) (cp w C A V h, nx) := by
  refine z_bast b hd ((cp_lt hq).trans (hA _)) hi hv ?_
  show WW X g μ.2.2.1 Z kc ks (pc + 1) L st (va_up (cp w C A V h) q (iarr 1 n (fu (A q) i v)), nx)
  rw [← hA, cp_upA hq]
  exact kk
theorem q_sast {q n : Nat} {i v : Int} (b : BX X l0 g μ d mc ms) (hd : decode μ.2.1 pc = .ok (.sastore, 1)) (hq : q < 257) (hA : ∀ a, ct w (C q) a (V q) q = iarr 2 n a) (hi : 0 ≤ i ∧ i < (n : Int) ∧ i < 2147483648) (hv : -32768 ≤ v ∧ v < 32768) (kk : WW X g μ.2.2.1 Z kc ks (pc + 1) L st (cp w C (va_up A q (fu (A q) i v)) V h, nx)) : WW X g μ.2.2.1 Z kc ks pc L (.int (iI v) :: .int (iI i) :: .ref q :: st) (cp w C A V h, nx) := by
  refine z_sast b hd ((cp_lt hq).trans (hA _)) hi hv ?_
  show WW X g μ.2.2.1 Z kc ks (pc + 1) L st (va_up (cp w C A V h) q (iarr 2 n (fu (A q) i v)), nx)
  rw [← hA, cp_upA hq]
  exact kk
theorem q_alen {q n t : Nat} (b : BX X l0 g μ d mc ms) (hd : decode μ.2.1 pc = .ok (.arraylength, 1)) (hq : q < 257) (hA : ct w (C q) (A q) (V q) q = iarr t n (A q)) (ht : t < 8) (kk : WW X g μ.2.2.1 Z kc ks (pc + 1) L (.int (iI (n : Int)) :: st) (cp w C A V h, nx)) : WW X g μ.2.2.1 Z kc ks pc L (.ref q :: st) (cp w C A V h, nx) := z_alen b hd ((cp_lt hq).trans hA) ht kk
theorem q_aald {q n t bb s : Nat} {i : Int} (b : BX X l0 g μ d mc ms) (hd : decode μ.2.1 pc = .ok (.aaload, 1)) (hq : q < 257) (hA : ct w (C q) (A q) (V q) q = rarr t n bb s) (ht : 4 ≤ t ∧ t < 8) (hi : 0 ≤ i ∧ i < (n : Int) ∧ i < 2147483648) (kk : WW X g μ.2.2.1 Z kc ks (pc + 1) L (.ref (bb + s * i.toNat) :: st) (cp w C A V h, nx)) : WW X g μ.2.2.1 Z kc ks pc L (.int (iI i) :: .ref q :: st) (cp w C A V h, nx) :=
  w_aald (r := some (bb + s * i.toNat)) b hd ((cp_lt hq).trans hA) ht (iI_in hi.1 hi.2.1 hi.2.2) (by rw [iI_clamp hi.1 hi.2.2]; exact if_pos (by omega)) kk
end FWQ
theorem cpO {w : Nat} {C : Nat → Nat → Int} {A : Nat → Int → Int} {V : Nat → Value} {h : Nat → va_E} {q ci : Nat} {tm : List Value} (hq : q < 257) (hO : ct w (C q) (A q) (V q) q = .inr (ci, tm)) : cp w C A V h q = .inr (ci, tm) := (cp_lt hq).trans hO
theorem cpS {w nx : Nat} {C : Nat → Nat → Int} {A : Nat → Int → Int} {V : Nat → Value} {h : Nat → va_E} {q ci : Nat} {tm : List Value} (hq : q < 257) (hO : ct w (C q) (A q) (V q) q = .inr (ci, tm)) : ((cp w C A V h, nx) : Sg).1 q = .inr (ci, tm) := (cp_lt hq).trans hO
