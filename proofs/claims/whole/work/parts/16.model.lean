/-! THE REFERENCE'S LAYER: its object is cell mo, its 32 arrays behind it; I: its int fields by their numbers, F: its arrays by their fields' numbers -/
abbrev marr : List (Nat × Nat) := [(3, 12), (4, 144), (5, 144), (6, 144), (7, 1000), (8, 12), (9, 13), (10, 13), (11, 13), (12, 13), (16, 6), (17, 6), (18, 8), (19, 80), (20, 80), (22, 1600), (23, 1600), (24, 1600), (25, 1600), (26, 40), (30, 8), (31, 8), (32, 7), (33, 15), (34, 15), (35, 8), (36, 8), (37, 8), (38, 8), (39, 8), (40, 480), (41, 60)]
def mfs (mo : Nat) (I : Nat → Int) : List Value := [.int (iI (I 0)), .int (iI (I 1)), .int (iI (I 2)), .ref (mo + 1 + 0), .ref (mo + 1 + 1), .ref (mo + 1 + 2), .ref (mo + 1 + 3), .ref (mo + 1 + 4), .ref (mo + 1 + 5), .ref (mo + 1 + 6), .ref (mo + 1 + 7), .ref (mo + 1 + 8), .ref (mo + 1 + 9), .int (iI (I 13)), .int (iI (I 14)), .int (iI (I 15)), .ref (mo + 1 + 10), .ref (mo + 1 + 11), .ref (mo + 1 + 12), .ref (mo + 1 + 13), .ref (mo + 1 + 14), .int (iI (I 21)), .ref (mo + 1 + 15), .ref (mo + 1 + 16), .ref (mo + 1 + 17), .ref (mo + 1 + 18), .ref (mo + 1 + 19), .int (iI (I 27)), .int (iI (I 28)), .int (iI (I 29)), .ref (mo + 1 + 20), .ref (mo + 1 + 21), .ref (mo + 1 + 22), .ref (mo + 1 + 23), .ref (mo + 1 + 24), .ref (mo + 1 + 25), .ref (mo + 1 + 26), .ref (mo + 1 + 27), .ref (mo + 1 + 28), .ref (mo + 1 + 29), .ref (mo + 1 + 30), .ref (mo + 1 + 31)]
def mp (mo : Nat) (h0 : Nat → va_E) (I : Nat → Int) (F : Nat → Int → Int) : Nat → va_E := fun q => if q = mo then .inr (9, mfs mo I) else if mo < q then (match marr[q - (mo + 1)]? with
  | some (k, n) => iarr 0 n (F k)
  | none => h0 q) else h0 q
theorem mp_obj (mo : Nat) (h0 : Nat → va_E) (I : Nat → Int) (F : Nat → Int → Int) : mp mo h0 I F mo = .inr (9, mfs mo I) := by simp [mp]
theorem mp_arr {mo : Nat} {h0 : Nat → va_E} {I : Nat → Int} {F : Nat → Int → Int} {p k n : Nat} (hp : marr[p]? = some (k, n)) : mp mo h0 I F (mo + 1 + p) = iarr 0 n (F k) := by
  unfold mp
  rw [if_neg (by omega), if_pos (by omega), show mo + 1 + p - (mo + 1) = p by omega, hp]
theorem mp_out {mo : Nat} {h0 : Nat → va_E} {I : Nat → Int} {F : Nat → Int → Int} {q : Nat} (hq : q < mo ∨ mo + 32 < q) : mp mo h0 I F q = h0 q := by
  unfold mp
  rw [if_neg (by omega)]
  by_cases h : mo < q
  · rw [if_pos h, List.getElem?_eq_none (by show 32 ≤ q - (mo + 1); omega)]
  · rw [if_neg h]
theorem marr_le : ∀ q ∈ marr, q.2 ≤ 1600 := by decide +kernel
theorem marr_inj : ∀ i : Fin 32, ∀ j : Fin 32, marr[i.val].1 = marr[j.val].1 → i = j := by decide +kernel
theorem mp_upF {mo : Nat} {h0 : Nat → va_E} {I : Nat → Int} {F : Nat → Int → Int} {p k n : Nat} (hp : marr[p]? = some (k, n)) (f : Int → Int) : va_up (mp mo h0 I F) (mo + 1 + p) (iarr 0 n f) = mp mo h0 I (va_up F k f) := by
  have hp32 : p < 32 := (List.getElem?_eq_some_iff.mp hp).1
  funext q
  by_cases h1 : q = mo + 1 + p
  · subst h1
    rw [va_up_self, mp_arr hp, va_up_self]
  · rw [va_up_ne _ _ h1]
    by_cases h2 : q = mo
    · subst h2
      rw [mp_obj, mp_obj]
    · by_cases h3 : q < mo ∨ mo + 32 < q
      · rw [mp_out h3, mp_out h3]
      · have h4 : q - (mo + 1) < 32 := by omega
        have h5 : marr[q - (mo + 1)]? = some (marr[q - (mo + 1)]'h4) := List.getElem?_eq_getElem h4
        have h6 : q = mo + 1 + (q - (mo + 1)) := by omega
        rw [h6, mp_arr (k := (marr[q - (mo + 1)]'h4).1) (n := (marr[q - (mo + 1)]'h4).2) h5, mp_arr (k := (marr[q - (mo + 1)]'h4).1) (n := (marr[q - (mo + 1)]'h4).2) h5]
        rw [va_up_ne]
        intro he
        have h7 := (List.getElem?_eq_some_iff.mp hp).2
        have h8 := marr_inj ⟨q - (mo + 1), h4⟩ ⟨p, hp32⟩ (he.trans (by show k = (marr[p]'_).1; rw [h7]))
        have h9 : q - (mo + 1) = p := congrArg Fin.val h8
        omega
theorem mp_upI {mo : Nat} {h0 : Nat → va_E} {I : Nat → Int} {F : Nat → Int → Int} {fs : List Value} {I2 : Nat → Int} (hfs : fs = mfs mo I2) : va_up (mp mo h0 I F) mo (.inr (9, fs)) = mp mo h0 I2 F := by
  subst hfs
  funext q
  by_cases h1 : q = mo
  · subst h1
    rw [va_up_self, mp_obj]
  · rw [va_up_ne _ _ h1]
    unfold mp
    rw [if_neg h1, if_neg h1]
section FWM
variable {X : Cx} {l0 : Launch} {g : Gw} {μ : Md} {d mc ms : Nat} {Z : State → Prop} {kc ks pc : Nat} {L : List (Option Value)} {st : List Value} {mo nx : Nat} {h0 : Nat → va_E} {I : Nat → Int} {F : Nat → Int → Int}
theorem m_get {idx k : Nat} {v : Value} (b : BX X l0 g μ d mc ms) (hd : decode μ.2.1 pc = .ok (.getfield idx, 3)) (lk : GF μ.1.cls idx 9 k) (hv : (mfs mo I)[k]? = some v) (kk : WW X g μ.2.2.1 Z kc ks (pc + 3) L (v :: st) (mp mo h0 I F, nx)) : WW X g μ.2.2.1 Z kc ks pc L (.ref mo :: st) (mp mo h0 I F, nx) := w_getf b hd lk (mp_obj mo h0 I F) hv kk
theorem m_ald {p k n : Nat} {i v : Int} (b : BX X l0 g μ d mc ms) (hd : decode μ.2.1 pc = .ok (.iaload, 1)) (hp : marr[p]? = some (k, n)) (h : 0 ≤ i ∧ i < (n : Int)) (hv : F k i = v) (kk : WW X g μ.2.2.1 Z kc ks (pc + 1) L (.int (iI v) :: st) (mp mo h0 I F, nx)) : WW X g μ.2.2.1 Z kc ks pc L (.int (iI i) :: .ref (mo + 1 + p) :: st) (mp mo h0 I F, nx) := by
  have hn : n ≤ 1600 := marr_le (k, n) (List.mem_of_getElem? hp)
  subst hv
  exact z_iald b hd (mp_arr hp) ⟨h.1, h.2, by omega⟩ kk
theorem m_ast {p k n : Nat} {i v : Int} (b : BX X l0 g μ d mc ms) (hd : decode μ.2.1 pc = .ok (.iastore, 1)) (hp : marr[p]? = some (k, n)) (h : 0 ≤ i ∧ i < (n : Int)) (kk : WW X g μ.2.2.1 Z kc ks (pc + 1) L st (mp mo h0 I (va_up F k (fu (F k) i v)), nx)) : WW X g μ.2.2.1 Z kc ks pc L (.int (iI v) :: .int (iI i) :: .ref (mo + 1 + p) :: st) (mp mo h0 I F, nx) := by
  have hn : n ≤ 1600 := marr_le (k, n) (List.mem_of_getElem? hp)
  refine z_iast b hd (mp_arr hp) ⟨h.1, h.2, by omega⟩ ?_
  show WW X g μ.2.2.1 Z kc ks (pc + 1) L st (va_up (mp mo h0 I F) (mo + 1 + p) (iarr 0 n (fu (F k) i v)), nx)
  rw [mp_upF hp]
  exact kk
theorem m_put {idx k : Nat} {v : Int} (b : BX X l0 g μ d mc ms) (hd : decode μ.2.1 pc = .ok (.putfield idx, 3)) (lk : GF μ.1.cls idx 9 k) (gt : GT μ.1.cls 9 k .int false) (hk : k < 42) (hv : (mfs mo I).set k (.int (iI v)) = mfs mo (va_up I k v)) (kk : WW X g μ.2.2.1 Z kc ks (pc + 3) L st (mp mo h0 (va_up I k v) F, nx)) : WW X g μ.2.2.1 Z kc ks pc L (.int (iI v) :: .ref mo :: st) (mp mo h0 I F, nx) := by
  refine w_putf b hd lk gcX9 gt (fun z => by cases z) (mp_obj mo h0 I F) hk rfl rfl ?_
  show WW X g μ.2.2.1 Z kc ks (pc + 3) L st (va_up (mp mo h0 I F) mo (.inr (9, (mfs mo I).set k (.int (iI v)))), nx)
  rw [mp_upI hv]
  exact kk
end FWM
