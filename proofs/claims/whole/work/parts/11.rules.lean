/-! RULES, by gen_rules.py: instructions that touch no cell -/
section FWR
variable {X : Cx} {l0 : Launch} {g : Gw} {μ : Md} {d mc ms : Nat} {Z : State → Prop} {kc ks pc : Nat} {L : List (Option Value)} {st : List Value} {σ : Sg}
def knL (g : Gw) (L : List (Option Value)) : List (Nat × Value) := (L.zipIdx).filterMap (fun q => q.1.map (fun v => (q.2, cv g v)))
theorem knL_mem {g : Gw} {L : List (Option Value)} {i : Nat} {w : Value} : (i, w) ∈ knL g L ↔ ∃ v, L[i]? = some (some v) ∧ w = cv g v := by
  unfold knL
  rw [List.mem_filterMap]
  constructor
  · rintro ⟨⟨o, j⟩, h1, h2⟩
    have h3 := List.mem_zipIdx_iff_getElem?.mp h1
    cases o with
    | none => cases h2
    | some v =>
      cases h2
      exact ⟨v, h3, rfl⟩
  · rintro ⟨v, h1, rfl⟩
    exact ⟨(some v, i), List.mem_zipIdx_iff_getElem?.mpr h1, rfl⟩
theorem LH.has {g : Gw} {ls : Array Slot} {nL : Nat} {L : List (Option Value)} (h : LH g ls nL L) : lv_has ls nL (knL g L) := by
  refine ⟨h.1, h.2.2.1, fun q hq => ?_⟩
  obtain ⟨i, w⟩ := q
  obtain ⟨v, h1, h2⟩ := knL_mem.mp hq
  rw [h2]
  exact h.2.2.2 i v h1
def okS (L : List (Option Value)) (i : Nat) : Bool := match i with
  | 0 => true
  | j + 1 => match L[j]? with
    | some (some v) => v.category == 1
    | _ => true
theorem LH.set1 {g : Gw} {ls ls' : Array Slot} {nL : Nat} {L : List (Option Value)} {i : Nat} {v : Value} (h : LH g ls nL L) (hi : i < nL) (ok : okS L i = true)
    (h' : lv_has ls' nL ((i, cv g v) :: (knL g L).filter (fun q => !(q.1 == i) && !(q.1 + 1 == i && q.2.category == 2)))) : LH g ls' nL (L.set i (some v)) := by
  refine ⟨h'.1, by rw [List.length_set]; exact h.2.1, h'.2.1, fun j w hj => ?_⟩
  by_cases hij : i = j
  · subst hij
    rw [List.getElem?_set_self (by rw [h.2.1]; exact hi)] at hj
    cases hj
    exact h'.2.2 (i, cv g v) List.mem_cons_self
  · rw [List.getElem?_set_ne hij] at hj
    refine h'.2.2 (j, cv g w) (List.mem_cons_of_mem _ (List.mem_filter.mpr ⟨knL_mem.mpr ⟨w, hj, rfl⟩, ?_⟩))
    have h1 : (j == i) = false := by simp; omega
    by_cases h2 : j + 1 = i
    · subst h2
      have h3 : (w.category == 1) = true := by
        unfold okS at ok
        simp only [hj] at ok
        exact ok
      have h4 : w.category = 1 := by simpa using h3
      simp [cv_cat, h4]
    · have h3 : (j + 1 == i) = false := by simp; omega
      simp [h1, h3]
theorem LH.set2 {g : Gw} {ls ls' : Array Slot} {nL : Nat} {L : List (Option Value)} {i : Nat} {v : Value} (h : LH g ls nL L) (hi : i + 1 < nL) (ok : okS L i = true)
    (h' : lv_has ls' nL ((i, cv g v) :: (knL g L).filter (fun q => !(q.1 == i) && (!(q.1 == i + 1) && !(q.1 + 1 == i && q.2.category == 2))))) : LH g ls' nL ((L.set i (some v)).set (i + 1) none) := by
  refine ⟨h'.1, by rw [List.length_set, List.length_set]; exact h.2.1, h'.2.1, fun j w hj => ?_⟩
  by_cases hij1 : i + 1 = j
  · subst hij1
    rw [List.getElem?_set_self (by rw [List.length_set, h.2.1]; exact hi)] at hj
    cases hj
  rw [List.getElem?_set_ne hij1] at hj
  by_cases hij : i = j
  · subst hij
    rw [List.getElem?_set_self (by rw [h.2.1]; omega)] at hj
    cases hj
    exact h'.2.2 (i, cv g v) List.mem_cons_self
  · rw [List.getElem?_set_ne hij] at hj
    refine h'.2.2 (j, cv g w) (List.mem_cons_of_mem _ (List.mem_filter.mpr ⟨knL_mem.mpr ⟨w, hj, rfl⟩, ?_⟩))
    have h1 : (j == i) = false := by simp; omega
    have h0 : (j == i + 1) = false := by simp; omega
    by_cases h2 : j + 1 = i
    · subst h2
      have h3 : (w.category == 1) = true := by
        unfold okS at ok
        simp only [hj] at ok
        exact ok
      have h4 : w.category = 1 := by simpa using h3
      simp [cv_cat, h4]
      omega
    · have h3 : (j + 1 == i) = false := by simp; omega
      simp [h1, h0, h3]
def isR (v : Value) : Bool := match v with
  | .ref _ => true
  | .float _ => true
  | .null => true
  | _ => false
theorem w_iconst {n : Int} {v : Int32} (b : BX X l0 g μ d mc ms) (hd : decode μ.2.1 pc = .ok (.iconst n, 1)) (hv : Int32.ofInt n = v)
    (kk : WW X g μ.2.2.1 Z kc ks (pc + 1) L (.int v :: st) σ) : WW X g μ.2.2.1 Z kc ks pc L st σ := by
  obtain ⟨p, l, e, R, s, m, args, below, meth, c⟩ := X
  obtain ⟨hl0, hx, hb, hml, hr, hlk, hnm, hown, hts, hK, hSw, hB, hR1, hR2, hR3, hR4⟩ := b
  intro H locs ls hP hS hL
  exact lv_iconst hx hb hd hv (kk H locs ls hP hS hL)
theorem w_bipush {n : Int} {v : Int32} (b : BX X l0 g μ d mc ms) (hd : decode μ.2.1 pc = .ok (.bipush n, 2)) (hv : (Int8.ofInt n).toInt32 = v)
    (kk : WW X g μ.2.2.1 Z kc ks (pc + 2) L (.int v :: st) σ) : WW X g μ.2.2.1 Z kc ks pc L st σ := by
  obtain ⟨p, l, e, R, s, m, args, below, meth, c⟩ := X
  obtain ⟨hl0, hx, hb, hml, hr, hlk, hnm, hown, hts, hK, hSw, hB, hR1, hR2, hR3, hR4⟩ := b
  intro H locs ls hP hS hL
  exact lv_bipush hx hb hd hv (kk H locs ls hP hS hL)
theorem w_sipush {n : Int} {v : Int32} (b : BX X l0 g μ d mc ms) (hd : decode μ.2.1 pc = .ok (.sipush n, 3)) (hv : (Int16.ofInt n).toInt32 = v)
    (kk : WW X g μ.2.2.1 Z kc ks (pc + 3) L (.int v :: st) σ) : WW X g μ.2.2.1 Z kc ks pc L st σ := by
  obtain ⟨p, l, e, R, s, m, args, below, meth, c⟩ := X
  obtain ⟨hl0, hx, hb, hml, hr, hlk, hnm, hown, hts, hK, hSw, hB, hR1, hR2, hR3, hR4⟩ := b
  intro H locs ls hP hS hL
  exact lv_sipush hx hb hd hv (kk H locs ls hP hS hL)
theorem w_lconst {n : Fin 2} {v : Int64} (b : BX X l0 g μ d mc ms) (hd : decode μ.2.1 pc = .ok (.lconst n, 1)) (hv : Int64.ofNat (n : Nat) = v)
    (kk : WW X g μ.2.2.1 Z kc ks (pc + 1) L (.long v :: st) σ) : WW X g μ.2.2.1 Z kc ks pc L st σ := by
  obtain ⟨p, l, e, R, s, m, args, below, meth, c⟩ := X
  obtain ⟨hl0, hx, hb, hml, hr, hlk, hnm, hown, hts, hK, hSw, hB, hR1, hR2, hR3, hR4⟩ := b
  intro H locs ls hP hS hL
  exact lv_lconst hx hb hd hv (kk H locs ls hP hS hL)
theorem w_null  (b : BX X l0 g μ d mc ms) (hd : decode μ.2.1 pc = .ok (.aconst_null, 1)) 
    (kk : WW X g μ.2.2.1 Z kc ks (pc + 1) L (.null :: st) σ) : WW X g μ.2.2.1 Z kc ks pc L st σ := by
  obtain ⟨p, l, e, R, s, m, args, below, meth, c⟩ := X
  obtain ⟨hl0, hx, hb, hml, hr, hlk, hnm, hown, hts, hK, hSw, hB, hR1, hR2, hR3, hR4⟩ := b
  intro H locs ls hP hS hL
  exact lv_null hx hb hd (kk H locs ls hP hS hL)
theorem w_ldc {idx : Nat} {v : Int32} (b : BX X l0 g μ d mc ms) (hd : decode μ.2.1 pc = .ok (.ldc idx, 2)) (hw : Cond.constant μ.1.cls idx v ∈ gw)
    (kk : WW X g μ.2.2.1 Z kc ks (pc + 2) L (.int v :: st) σ) : WW X g μ.2.2.1 Z kc ks pc L st σ := by
  obtain ⟨p, l, e, R, s, m, args, below, meth, c⟩ := X
  obtain ⟨hl0, hx, hb, hml, hr, hlk, hnm, hown, hts, hK, hSw, hB, hR1, hR2, hR3, hR4⟩ := b
  intro H locs ls hP hS hL
  exact lv_ldc hx hb hown (hts _ hw) hd (kk H locs ls hP hS hL)
theorem w_ldcw {idx : Nat} {v : Int32} (b : BX X l0 g μ d mc ms) (hd : decode μ.2.1 pc = .ok (.ldc_w idx, 3)) (hw : Cond.constant μ.1.cls idx v ∈ gw)
    (kk : WW X g μ.2.2.1 Z kc ks (pc + 3) L (.int v :: st) σ) : WW X g μ.2.2.1 Z kc ks pc L st σ := by
  obtain ⟨p, l, e, R, s, m, args, below, meth, c⟩ := X
  obtain ⟨hl0, hx, hb, hml, hr, hlk, hnm, hown, hts, hK, hSw, hB, hR1, hR2, hR3, hR4⟩ := b
  intro H locs ls hP hS hL
  exact lv_ldcw hx hb hown (hts _ hw) hd (kk H locs ls hP hS hL)
theorem w_iload_n {k : Fin 4} {x : Int32} (b : BX X l0 g μ d mc ms) (hd : decode μ.2.1 pc = .ok (.iload_n k, 1)) (hl : L[(k : Nat)]? = some (some (.int x)))
    (kk : WW X g μ.2.2.1 Z kc ks (pc + 1) L (.int x :: st) σ) : WW X g μ.2.2.1 Z kc ks pc L st σ := by
  obtain ⟨p, l, e, R, s, m, args, below, meth, c⟩ := X
  obtain ⟨hl0, hx, hb, hml, hr, hlk, hnm, hown, hts, hK, hSw, hB, hR1, hR2, hR3, hR4⟩ := b
  intro H locs ls hP hS hL
  exact lv_iload_n hx hb hd rfl (hL.2.2.2 _ _ hl) (kk H locs ls hP hS hL)
theorem w_iload {i : Nat} {x : Int32} (b : BX X l0 g μ d mc ms) (hd : decode μ.2.1 pc = .ok (.iload i, 2)) (hl : L[i]? = some (some (.int x)))
    (kk : WW X g μ.2.2.1 Z kc ks (pc + 2) L (.int x :: st) σ) : WW X g μ.2.2.1 Z kc ks pc L st σ := by
  obtain ⟨p, l, e, R, s, m, args, below, meth, c⟩ := X
  obtain ⟨hl0, hx, hb, hml, hr, hlk, hnm, hown, hts, hK, hSw, hB, hR1, hR2, hR3, hR4⟩ := b
  intro H locs ls hP hS hL
  exact lv_iload hx hb hd (hL.2.2.2 _ _ hl) (kk H locs ls hP hS hL)
theorem w_lload {i : Nat} {x : Int64} (b : BX X l0 g μ d mc ms) (hd : decode μ.2.1 pc = .ok (.lload i, 2)) (hl : L[i]? = some (some (.long x)))
    (kk : WW X g μ.2.2.1 Z kc ks (pc + 2) L (.long x :: st) σ) : WW X g μ.2.2.1 Z kc ks pc L st σ := by
  obtain ⟨p, l, e, R, s, m, args, below, meth, c⟩ := X
  obtain ⟨hl0, hx, hb, hml, hr, hlk, hnm, hown, hts, hK, hSw, hB, hR1, hR2, hR3, hR4⟩ := b
  intro H locs ls hP hS hL
  exact lv_lload hx hb hd (hL.2.2.2 _ _ hl) (kk H locs ls hP hS hL)
theorem w_aload_n {k : Fin 4} {v : Value} (b : BX X l0 g μ d mc ms) (hd : decode μ.2.1 pc = .ok (.aload_n k, 1)) (hl : L[(k : Nat)]? = some (some v)) (hv : isR v = true)
    (kk : WW X g μ.2.2.1 Z kc ks (pc + 1) L (v :: st) σ) : WW X g μ.2.2.1 Z kc ks pc L st σ := by
  obtain ⟨p, l, e, R, s, m, args, below, meth, c⟩ := X
  obtain ⟨hl0, hx, hb, hml, hr, hlk, hnm, hown, hts, hK, hSw, hB, hR1, hR2, hR3, hR4⟩ := b
  intro H locs ls hP hS hL
  have h1 := hL.2.2.2 _ _ hl
  cases v with
  | ref q => exact lv_aload_n hx hb hd rfl h1 (kk H locs ls hP hS hL)
  | float q => exact lv_aload_n hx hb hd rfl h1 (kk H locs ls hP hS hL)
  | null => exact lv_aload_nN hx hb hd rfl h1 (kk H locs ls hP hS hL)
  | _ => cases hv
theorem w_aload {i : Nat} {v : Value} (b : BX X l0 g μ d mc ms) (hd : decode μ.2.1 pc = .ok (.aload i, 2)) (hl : L[i]? = some (some v)) (hv : isR v = true)
    (kk : WW X g μ.2.2.1 Z kc ks (pc + 2) L (v :: st) σ) : WW X g μ.2.2.1 Z kc ks pc L st σ := by
  obtain ⟨p, l, e, R, s, m, args, below, meth, c⟩ := X
  obtain ⟨hl0, hx, hb, hml, hr, hlk, hnm, hown, hts, hK, hSw, hB, hR1, hR2, hR3, hR4⟩ := b
  intro H locs ls hP hS hL
  have h1 := hL.2.2.2 _ _ hl
  cases v with
  | ref q => exact lv_aload hx hb hd h1 (kk H locs ls hP hS hL)
  | float q => exact lv_aload hx hb hd h1 (kk H locs ls hP hS hL)
  | null => exact lv_aloadN hx hb hd h1 (kk H locs ls hP hS hL)
  | _ => cases hv
theorem w_istore_n {k : Fin 4} {x : Int32} (b : BX X l0 g μ d mc ms) (hd : decode μ.2.1 pc = .ok (.istore_n k, 1)) (hi : (k : Nat) < L.length) (ok : okS L (k : Nat) = true)
    (kk : WW X g μ.2.2.1 Z kc ks (pc + 1) (L.set (k : Nat) (some (.int x))) st σ) : WW X g μ.2.2.1 Z kc ks pc L (.int x :: st) σ := by
  obtain ⟨p, l, e, R, s, m, args, below, meth, c⟩ := X
  obtain ⟨hl0, hx, hb, hml, hr, hlk, hnm, hown, hts, hK, hSw, hB, hR1, hR2, hR3, hR4⟩ := b
  intro H locs ls hP hS hL
  have hi2 : (k : Nat) < μ.2.2.1 := by rw [← hL.2.1]; exact hi
  exact lv_istore_n hx hb hd rfl hL.has hi2 rfl (fun ls2 h2 => kk H locs ls2 hP hS (hL.set1 hi2 ok h2))
theorem w_istore {i : Nat} {x : Int32} (b : BX X l0 g μ d mc ms) (hd : decode μ.2.1 pc = .ok (.istore i, 2)) (hi : i < L.length) (ok : okS L i = true)
    (kk : WW X g μ.2.2.1 Z kc ks (pc + 2) (L.set i (some (.int x))) st σ) : WW X g μ.2.2.1 Z kc ks pc L (.int x :: st) σ := by
  obtain ⟨p, l, e, R, s, m, args, below, meth, c⟩ := X
  obtain ⟨hl0, hx, hb, hml, hr, hlk, hnm, hown, hts, hK, hSw, hB, hR1, hR2, hR3, hR4⟩ := b
  intro H locs ls hP hS hL
  have hi2 : i < μ.2.2.1 := by rw [← hL.2.1]; exact hi
  exact lv_istore hx hb hd hL.has hi2 rfl (fun ls2 h2 => kk H locs ls2 hP hS (hL.set1 hi2 ok h2))
theorem w_astore_n {k : Fin 4} {v : Value} (b : BX X l0 g μ d mc ms) (hd : decode μ.2.1 pc = .ok (.astore_n k, 1)) (hi : (k : Nat) < L.length) (ok : okS L (k : Nat) = true) (hv : isR v = true)
    (kk : WW X g μ.2.2.1 Z kc ks (pc + 1) (L.set (k : Nat) (some v)) st σ) : WW X g μ.2.2.1 Z kc ks pc L (v :: st) σ := by
  obtain ⟨p, l, e, R, s, m, args, below, meth, c⟩ := X
  obtain ⟨hl0, hx, hb, hml, hr, hlk, hnm, hown, hts, hK, hSw, hB, hR1, hR2, hR3, hR4⟩ := b
  intro H locs ls hP hS hL
  have hi2 : (k : Nat) < μ.2.2.1 := by rw [← hL.2.1]; exact hi
  cases v with
  | ref q => exact lv_astore_n hx hb hd rfl hL.has hi2 rfl (fun ls2 h2 => kk H locs ls2 hP hS (hL.set1 hi2 ok h2))
  | float q => exact lv_astore_n hx hb hd rfl hL.has hi2 rfl (fun ls2 h2 => kk H locs ls2 hP hS (hL.set1 hi2 ok h2))
  | null => exact lv_astore_nN hx hb hd rfl hL.has hi2 rfl (fun ls2 h2 => kk H locs ls2 hP hS (hL.set1 hi2 ok h2))
  | _ => cases hv
theorem w_astore {i : Nat} {v : Value} (b : BX X l0 g μ d mc ms) (hd : decode μ.2.1 pc = .ok (.astore i, 2)) (hi : i < L.length) (ok : okS L i = true) (hv : isR v = true)
    (kk : WW X g μ.2.2.1 Z kc ks (pc + 2) (L.set i (some v)) st σ) : WW X g μ.2.2.1 Z kc ks pc L (v :: st) σ := by
  obtain ⟨p, l, e, R, s, m, args, below, meth, c⟩ := X
  obtain ⟨hl0, hx, hb, hml, hr, hlk, hnm, hown, hts, hK, hSw, hB, hR1, hR2, hR3, hR4⟩ := b
  intro H locs ls hP hS hL
  have hi2 : i < μ.2.2.1 := by rw [← hL.2.1]; exact hi
  cases v with
  | ref q => exact lv_astore hx hb hd hL.has hi2 rfl (fun ls2 h2 => kk H locs ls2 hP hS (hL.set1 hi2 ok h2))
  | float q => exact lv_astore hx hb hd hL.has hi2 rfl (fun ls2 h2 => kk H locs ls2 hP hS (hL.set1 hi2 ok h2))
  | null => exact lv_astoreN hx hb hd hL.has hi2 rfl (fun ls2 h2 => kk H locs ls2 hP hS (hL.set1 hi2 ok h2))
  | _ => cases hv
theorem w_lstore {i : Nat} {x : Int64} (b : BX X l0 g μ d mc ms) (hd : decode μ.2.1 pc = .ok (.lstore i, 2)) (hi : i + 1 < L.length) (ok : okS L i = true)
    (kk : WW X g μ.2.2.1 Z kc ks (pc + 2) ((L.set i (some (.long x))).set (i + 1) none) st σ) : WW X g μ.2.2.1 Z kc ks pc L (.long x :: st) σ := by
  obtain ⟨p, l, e, R, s, m, args, below, meth, c⟩ := X
  obtain ⟨hl0, hx, hb, hml, hr, hlk, hnm, hown, hts, hK, hSw, hB, hR1, hR2, hR3, hR4⟩ := b
  intro H locs ls hP hS hL
  have hi2 : i + 1 < μ.2.2.1 := by rw [← hL.2.1]; exact hi
  exact lv_lstore hx hb hd hL.has hi2 rfl (fun ls2 h2 => kk H locs ls2 hP hS (hL.set2 hi2 ok h2))
theorem w_iinc {i : Nat} {n : Int} {x v : Int32} (b : BX X l0 g μ d mc ms) (hd : decode μ.2.1 pc = .ok (.iinc i n, 3)) (hl : L[i]? = some (some (.int x))) (ok : okS L i = true) (hv : x + Int32.ofInt n = v)
    (kk : WW X g μ.2.2.1 Z kc ks (pc + 3) (L.set i (some (.int v))) st σ) : WW X g μ.2.2.1 Z kc ks pc L st σ := by
  obtain ⟨p, l, e, R, s, m, args, below, meth, c⟩ := X
  obtain ⟨hl0, hx, hb, hml, hr, hlk, hnm, hown, hts, hK, hSw, hB, hR1, hR2, hR3, hR4⟩ := b
  intro H locs ls hP hS hL
  have hi2 : i < μ.2.2.1 := by rw [← hL.2.1]; exact (List.getElem?_eq_some_iff.mp hl).1
  have hm : (i, Value.int x) ∈ knL g L := knL_mem.mpr ⟨.int x, hl, rfl⟩
  obtain ⟨k, hk⟩ := List.getElem?_of_mem hm
  exact lv_iinc hx hb hd hL.has hk hv hi2 rfl (fun ls2 h2 => kk H locs ls2 hP hS (hL.set1 hi2 ok h2))
theorem w_iadd {x y : Int32} (b : BX X l0 g μ d mc ms) (hd : decode μ.2.1 pc = .ok (.iadd, 1)) 
    (kk : WW X g μ.2.2.1 Z kc ks (pc + 1) L (.int (x + y) :: st) σ) : WW X g μ.2.2.1 Z kc ks pc L (.int y :: .int x :: st) σ := by
  obtain ⟨p, l, e, R, s, m, args, below, meth, c⟩ := X
  obtain ⟨hl0, hx, hb, hml, hr, hlk, hnm, hown, hts, hK, hSw, hB, hR1, hR2, hR3, hR4⟩ := b
  intro H locs ls hP hS hL
  exact lv_iadd hx hb hd (kk H locs ls hP hS hL)
theorem w_isub {x y : Int32} (b : BX X l0 g μ d mc ms) (hd : decode μ.2.1 pc = .ok (.isub, 1)) 
    (kk : WW X g μ.2.2.1 Z kc ks (pc + 1) L (.int (x - y) :: st) σ) : WW X g μ.2.2.1 Z kc ks pc L (.int y :: .int x :: st) σ := by
  obtain ⟨p, l, e, R, s, m, args, below, meth, c⟩ := X
  obtain ⟨hl0, hx, hb, hml, hr, hlk, hnm, hown, hts, hK, hSw, hB, hR1, hR2, hR3, hR4⟩ := b
  intro H locs ls hP hS hL
  exact lv_isub hx hb hd (kk H locs ls hP hS hL)
theorem w_imul {x y : Int32} (b : BX X l0 g μ d mc ms) (hd : decode μ.2.1 pc = .ok (.imul, 1)) 
    (kk : WW X g μ.2.2.1 Z kc ks (pc + 1) L (.int (x * y) :: st) σ) : WW X g μ.2.2.1 Z kc ks pc L (.int y :: .int x :: st) σ := by
  obtain ⟨p, l, e, R, s, m, args, below, meth, c⟩ := X
  obtain ⟨hl0, hx, hb, hml, hr, hlk, hnm, hown, hts, hK, hSw, hB, hR1, hR2, hR3, hR4⟩ := b
  intro H locs ls hP hS hL
  exact lv_imul hx hb hd (kk H locs ls hP hS hL)
theorem w_iand {x y : Int32} (b : BX X l0 g μ d mc ms) (hd : decode μ.2.1 pc = .ok (.iand, 1)) 
    (kk : WW X g μ.2.2.1 Z kc ks (pc + 1) L (.int (x &&& y) :: st) σ) : WW X g μ.2.2.1 Z kc ks pc L (.int y :: .int x :: st) σ := by
  obtain ⟨p, l, e, R, s, m, args, below, meth, c⟩ := X
  obtain ⟨hl0, hx, hb, hml, hr, hlk, hnm, hown, hts, hK, hSw, hB, hR1, hR2, hR3, hR4⟩ := b
  intro H locs ls hP hS hL
  exact lv_iand hx hb hd (kk H locs ls hP hS hL)
theorem w_ior {x y : Int32} (b : BX X l0 g μ d mc ms) (hd : decode μ.2.1 pc = .ok (.ior, 1)) 
    (kk : WW X g μ.2.2.1 Z kc ks (pc + 1) L (.int (x ||| y) :: st) σ) : WW X g μ.2.2.1 Z kc ks pc L (.int y :: .int x :: st) σ := by
  obtain ⟨p, l, e, R, s, m, args, below, meth, c⟩ := X
  obtain ⟨hl0, hx, hb, hml, hr, hlk, hnm, hown, hts, hK, hSw, hB, hR1, hR2, hR3, hR4⟩ := b
  intro H locs ls hP hS hL
  exact lv_ior hx hb hd (kk H locs ls hP hS hL)
theorem w_ixor {x y : Int32} (b : BX X l0 g μ d mc ms) (hd : decode μ.2.1 pc = .ok (.ixor, 1)) 
    (kk : WW X g μ.2.2.1 Z kc ks (pc + 1) L (.int (x ^^^ y) :: st) σ) : WW X g μ.2.2.1 Z kc ks pc L (.int y :: .int x :: st) σ := by
  obtain ⟨p, l, e, R, s, m, args, below, meth, c⟩ := X
  obtain ⟨hl0, hx, hb, hml, hr, hlk, hnm, hown, hts, hK, hSw, hB, hR1, hR2, hR3, hR4⟩ := b
  intro H locs ls hP hS hL
  exact lv_ixor hx hb hd (kk H locs ls hP hS hL)
theorem w_ishl {x y : Int32} (b : BX X l0 g μ d mc ms) (hd : decode μ.2.1 pc = .ok (.ishl, 1)) 
    (kk : WW X g μ.2.2.1 Z kc ks (pc + 1) L (.int (x <<< (y &&& 31)) :: st) σ) : WW X g μ.2.2.1 Z kc ks pc L (.int y :: .int x :: st) σ := by
  obtain ⟨p, l, e, R, s, m, args, below, meth, c⟩ := X
  obtain ⟨hl0, hx, hb, hml, hr, hlk, hnm, hown, hts, hK, hSw, hB, hR1, hR2, hR3, hR4⟩ := b
  intro H locs ls hP hS hL
  exact lv_ishl hx hb hd (kk H locs ls hP hS hL)
theorem w_ishr {x y : Int32} (b : BX X l0 g μ d mc ms) (hd : decode μ.2.1 pc = .ok (.ishr, 1)) 
    (kk : WW X g μ.2.2.1 Z kc ks (pc + 1) L (.int (x >>> (y &&& 31)) :: st) σ) : WW X g μ.2.2.1 Z kc ks pc L (.int y :: .int x :: st) σ := by
  obtain ⟨p, l, e, R, s, m, args, below, meth, c⟩ := X
  obtain ⟨hl0, hx, hb, hml, hr, hlk, hnm, hown, hts, hK, hSw, hB, hR1, hR2, hR3, hR4⟩ := b
  intro H locs ls hP hS hL
  exact lv_ishr hx hb hd (kk H locs ls hP hS hL)
theorem w_iushr {x y : Int32} (b : BX X l0 g μ d mc ms) (hd : decode μ.2.1 pc = .ok (.iushr, 1)) 
    (kk : WW X g μ.2.2.1 Z kc ks (pc + 1) L (.int ((x.toUInt32 >>> (y.toUInt32 &&& Int32.toUInt32 31)).toInt32) :: st) σ) : WW X g μ.2.2.1 Z kc ks pc L (.int y :: .int x :: st) σ := by
  obtain ⟨p, l, e, R, s, m, args, below, meth, c⟩ := X
  obtain ⟨hl0, hx, hb, hml, hr, hlk, hnm, hown, hts, hK, hSw, hB, hR1, hR2, hR3, hR4⟩ := b
  intro H locs ls hP hS hL
  exact lv_iushr hx hb hd rfl (kk H locs ls hP hS hL)
theorem w_idiv {x y : Int32} (b : BX X l0 g μ d mc ms) (hd : decode μ.2.1 pc = .ok (.idiv, 1)) (hne : ¬ y = 0)
    (kk : WW X g μ.2.2.1 Z kc ks (pc + 1) L (.int (x / y) :: st) σ) : WW X g μ.2.2.1 Z kc ks pc L (.int y :: .int x :: st) σ := by
  obtain ⟨p, l, e, R, s, m, args, below, meth, c⟩ := X
  obtain ⟨hl0, hx, hb, hml, hr, hlk, hnm, hown, hts, hK, hSw, hB, hR1, hR2, hR3, hR4⟩ := b
  intro H locs ls hP hS hL
  exact lv_idiv hx hb hd hne (kk H locs ls hP hS hL)
theorem w_irem {x y : Int32} (b : BX X l0 g μ d mc ms) (hd : decode μ.2.1 pc = .ok (.irem, 1)) (hne : ¬ y = 0)
    (kk : WW X g μ.2.2.1 Z kc ks (pc + 1) L (.int (x - x / y * y) :: st) σ) : WW X g μ.2.2.1 Z kc ks pc L (.int y :: .int x :: st) σ := by
  obtain ⟨p, l, e, R, s, m, args, below, meth, c⟩ := X
  obtain ⟨hl0, hx, hb, hml, hr, hlk, hnm, hown, hts, hK, hSw, hB, hR1, hR2, hR3, hR4⟩ := b
  intro H locs ls hP hS hL
  exact lv_irem hx hb hd hne (kk H locs ls hP hS hL)
theorem w_ineg {x : Int32} (b : BX X l0 g μ d mc ms) (hd : decode μ.2.1 pc = .ok (.ineg, 1)) 
    (kk : WW X g μ.2.2.1 Z kc ks (pc + 1) L (.int (-x) :: st) σ) : WW X g μ.2.2.1 Z kc ks pc L (.int x :: st) σ := by
  obtain ⟨p, l, e, R, s, m, args, below, meth, c⟩ := X
  obtain ⟨hl0, hx, hb, hml, hr, hlk, hnm, hown, hts, hK, hSw, hB, hR1, hR2, hR3, hR4⟩ := b
  intro H locs ls hP hS hL
  exact lv_ineg hx hb hd (kk H locs ls hP hS hL)
theorem w_i2b {x : Int32} (b : BX X l0 g μ d mc ms) (hd : decode μ.2.1 pc = .ok (.i2b, 1)) 
    (kk : WW X g μ.2.2.1 Z kc ks (pc + 1) L (.int (x.toInt8.toInt32) :: st) σ) : WW X g μ.2.2.1 Z kc ks pc L (.int x :: st) σ := by
  obtain ⟨p, l, e, R, s, m, args, below, meth, c⟩ := X
  obtain ⟨hl0, hx, hb, hml, hr, hlk, hnm, hown, hts, hK, hSw, hB, hR1, hR2, hR3, hR4⟩ := b
  intro H locs ls hP hS hL
  exact lv_i2b hx hb hd rfl (kk H locs ls hP hS hL)
theorem w_i2s {x : Int32} (b : BX X l0 g μ d mc ms) (hd : decode μ.2.1 pc = .ok (.i2s, 1)) 
    (kk : WW X g μ.2.2.1 Z kc ks (pc + 1) L (.int (x.toInt16.toInt32) :: st) σ) : WW X g μ.2.2.1 Z kc ks pc L (.int x :: st) σ := by
  obtain ⟨p, l, e, R, s, m, args, below, meth, c⟩ := X
  obtain ⟨hl0, hx, hb, hml, hr, hlk, hnm, hown, hts, hK, hSw, hB, hR1, hR2, hR3, hR4⟩ := b
  intro H locs ls hP hS hL
  exact lv_i2s hx hb hd rfl (kk H locs ls hP hS hL)
theorem w_i2l {x : Int32} (b : BX X l0 g μ d mc ms) (hd : decode μ.2.1 pc = .ok (.i2l, 1)) 
    (kk : WW X g μ.2.2.1 Z kc ks (pc + 1) L (.long x.toInt64 :: st) σ) : WW X g μ.2.2.1 Z kc ks pc L (.int x :: st) σ := by
  obtain ⟨p, l, e, R, s, m, args, below, meth, c⟩ := X
  obtain ⟨hl0, hx, hb, hml, hr, hlk, hnm, hown, hts, hK, hSw, hB, hR1, hR2, hR3, hR4⟩ := b
  intro H locs ls hP hS hL
  exact lv_i2l hx hb hd rfl (kk H locs ls hP hS hL)
theorem w_lcmp {x y : Int64} (b : BX X l0 g μ d mc ms) (hd : decode μ.2.1 pc = .ok (.lcmp, 1)) 
    (kk : WW X g μ.2.2.1 Z kc ks (pc + 1) L (.int (lg_cmp x y) :: st) σ) : WW X g μ.2.2.1 Z kc ks pc L (.long y :: .long x :: st) σ := by
  obtain ⟨p, l, e, R, s, m, args, below, meth, c⟩ := X
  obtain ⟨hl0, hx, hb, hml, hr, hlk, hnm, hown, hts, hK, hSw, hB, hR1, hR2, hR3, hR4⟩ := b
  intro H locs ls hP hS hL
  exact W.lcmp hx hb hd (kk H locs ls hP hS hL)
theorem w_dup {v : Value} (b : BX X l0 g μ d mc ms) (hd : decode μ.2.1 pc = .ok (.dup, 1)) (h1 : v.category = 1)
    (kk : WW X g μ.2.2.1 Z kc ks (pc + 1) L (v :: v :: st) σ) : WW X g μ.2.2.1 Z kc ks pc L (v :: st) σ := by
  obtain ⟨p, l, e, R, s, m, args, below, meth, c⟩ := X
  obtain ⟨hl0, hx, hb, hml, hr, hlk, hnm, hown, hts, hK, hSw, hB, hR1, hR2, hR3, hR4⟩ := b
  intro H locs ls hP hS hL
  exact lv_dup hx hb hd (by rw [cv_cat]; exact h1) (kk H locs ls hP hS hL)
theorem w_pop {v : Value} (b : BX X l0 g μ d mc ms) (hd : decode μ.2.1 pc = .ok (.pop, 1)) (h1 : v.category = 1)
    (kk : WW X g μ.2.2.1 Z kc ks (pc + 1) L st σ) : WW X g μ.2.2.1 Z kc ks pc L (v :: st) σ := by
  obtain ⟨p, l, e, R, s, m, args, below, meth, c⟩ := X
  obtain ⟨hl0, hx, hb, hml, hr, hlk, hnm, hown, hts, hK, hSw, hB, hR1, hR2, hR3, hR4⟩ := b
  intro H locs ls hP hS hL
  exact lv_pop hx hb hd (by rw [cv_cat]; exact h1) (kk H locs ls hP hS hL)
theorem w_dup_x1 {v w : Value} (b : BX X l0 g μ d mc ms) (hd : decode μ.2.1 pc = .ok (.dup_x1, 1)) (h1 : v.category = 1) (h2 : w.category = 1)
    (kk : WW X g μ.2.2.1 Z kc ks (pc + 1) L (v :: w :: v :: st) σ) : WW X g μ.2.2.1 Z kc ks pc L (v :: w :: st) σ := by
  obtain ⟨p, l, e, R, s, m, args, below, meth, c⟩ := X
  obtain ⟨hl0, hx, hb, hml, hr, hlk, hnm, hown, hts, hK, hSw, hB, hR1, hR2, hR3, hR4⟩ := b
  intro H locs ls hP hS hL
  exact lv_dup_x1 hx hb hd (by rw [cv_cat]; exact h1) (by rw [cv_cat]; exact h2) (kk H locs ls hP hS hL)
theorem w_dup2 {v w : Value} (b : BX X l0 g μ d mc ms) (hd : decode μ.2.1 pc = .ok (.dup2, 1)) (h1 : v.category = 1) (h2 : w.category = 1)
    (kk : WW X g μ.2.2.1 Z kc ks (pc + 1) L (v :: w :: v :: w :: st) σ) : WW X g μ.2.2.1 Z kc ks pc L (v :: w :: st) σ := by
  obtain ⟨p, l, e, R, s, m, args, below, meth, c⟩ := X
  obtain ⟨hl0, hx, hb, hml, hr, hlk, hnm, hown, hts, hK, hSw, hB, hR1, hR2, hR3, hR4⟩ := b
  intro H locs ls hP hS hL
  exact lv_dup2_11 hx hb hd (by rw [cv_cat]; exact h1) (by rw [cv_cat]; exact h2) (kk H locs ls hP hS hL)
theorem w_if_eq {x : Int32} {off : Int} {tgt : Nat} (b : BX X l0 g μ d mc ms) (hd : decode μ.2.1 pc = .ok (.ifCond .eq off, 3)) (ht : (pc : Int) + off = (tgt : Int))
    (kt : x = 0 → WW X g μ.2.2.1 Z kc ks tgt L st σ) (kf : ¬ x = 0 → WW X g μ.2.2.1 Z kc ks (pc + 3) L st σ) : WW X g μ.2.2.1 Z kc ks pc L (.int x :: st) σ := by
  obtain ⟨p, l, e, R, s, m, args, below, meth, c⟩ := X
  obtain ⟨hl0, hx, hb, hml, hr, hlk, hnm, hown, hts, hK, hSw, hB, hR1, hR2, hR3, hR4⟩ := b
  intro H locs ls hP hS hL
  exact lv_if_eq hx hb hd ht (fun z => kt z H locs ls hP hS hL) (fun z => kf z H locs ls hP hS hL)
theorem w_if_ne {x : Int32} {off : Int} {tgt : Nat} (b : BX X l0 g μ d mc ms) (hd : decode μ.2.1 pc = .ok (.ifCond .ne off, 3)) (ht : (pc : Int) + off = (tgt : Int))
    (kt : ¬ x = 0 → WW X g μ.2.2.1 Z kc ks tgt L st σ) (kf : x = 0 → WW X g μ.2.2.1 Z kc ks (pc + 3) L st σ) : WW X g μ.2.2.1 Z kc ks pc L (.int x :: st) σ := by
  obtain ⟨p, l, e, R, s, m, args, below, meth, c⟩ := X
  obtain ⟨hl0, hx, hb, hml, hr, hlk, hnm, hown, hts, hK, hSw, hB, hR1, hR2, hR3, hR4⟩ := b
  intro H locs ls hP hS hL
  exact lv_if_ne hx hb hd ht (fun z => kt z H locs ls hP hS hL) (fun z => kf z H locs ls hP hS hL)
theorem w_if_lt {x : Int32} {off : Int} {tgt : Nat} (b : BX X l0 g μ d mc ms) (hd : decode μ.2.1 pc = .ok (.ifCond .lt off, 3)) (ht : (pc : Int) + off = (tgt : Int))
    (kt : x < 0 → WW X g μ.2.2.1 Z kc ks tgt L st σ) (kf : ¬ x < 0 → WW X g μ.2.2.1 Z kc ks (pc + 3) L st σ) : WW X g μ.2.2.1 Z kc ks pc L (.int x :: st) σ := by
  obtain ⟨p, l, e, R, s, m, args, below, meth, c⟩ := X
  obtain ⟨hl0, hx, hb, hml, hr, hlk, hnm, hown, hts, hK, hSw, hB, hR1, hR2, hR3, hR4⟩ := b
  intro H locs ls hP hS hL
  exact lv_if_lt hx hb hd ht (fun z => kt z H locs ls hP hS hL) (fun z => kf z H locs ls hP hS hL)
theorem w_if_ge {x : Int32} {off : Int} {tgt : Nat} (b : BX X l0 g μ d mc ms) (hd : decode μ.2.1 pc = .ok (.ifCond .ge off, 3)) (ht : (pc : Int) + off = (tgt : Int))
    (kt : 0 ≤ x → WW X g μ.2.2.1 Z kc ks tgt L st σ) (kf : ¬ 0 ≤ x → WW X g μ.2.2.1 Z kc ks (pc + 3) L st σ) : WW X g μ.2.2.1 Z kc ks pc L (.int x :: st) σ := by
  obtain ⟨p, l, e, R, s, m, args, below, meth, c⟩ := X
  obtain ⟨hl0, hx, hb, hml, hr, hlk, hnm, hown, hts, hK, hSw, hB, hR1, hR2, hR3, hR4⟩ := b
  intro H locs ls hP hS hL
  exact lv_if_ge hx hb hd ht (fun z => kt z H locs ls hP hS hL) (fun z => kf z H locs ls hP hS hL)
theorem w_if_gt {x : Int32} {off : Int} {tgt : Nat} (b : BX X l0 g μ d mc ms) (hd : decode μ.2.1 pc = .ok (.ifCond .gt off, 3)) (ht : (pc : Int) + off = (tgt : Int))
    (kt : 0 < x → WW X g μ.2.2.1 Z kc ks tgt L st σ) (kf : ¬ 0 < x → WW X g μ.2.2.1 Z kc ks (pc + 3) L st σ) : WW X g μ.2.2.1 Z kc ks pc L (.int x :: st) σ := by
  obtain ⟨p, l, e, R, s, m, args, below, meth, c⟩ := X
  obtain ⟨hl0, hx, hb, hml, hr, hlk, hnm, hown, hts, hK, hSw, hB, hR1, hR2, hR3, hR4⟩ := b
  intro H locs ls hP hS hL
  exact lv_if_gt hx hb hd ht (fun z => kt z H locs ls hP hS hL) (fun z => kf z H locs ls hP hS hL)
theorem w_if_le {x : Int32} {off : Int} {tgt : Nat} (b : BX X l0 g μ d mc ms) (hd : decode μ.2.1 pc = .ok (.ifCond .le off, 3)) (ht : (pc : Int) + off = (tgt : Int))
    (kt : x ≤ 0 → WW X g μ.2.2.1 Z kc ks tgt L st σ) (kf : ¬ x ≤ 0 → WW X g μ.2.2.1 Z kc ks (pc + 3) L st σ) : WW X g μ.2.2.1 Z kc ks pc L (.int x :: st) σ := by
  obtain ⟨p, l, e, R, s, m, args, below, meth, c⟩ := X
  obtain ⟨hl0, hx, hb, hml, hr, hlk, hnm, hown, hts, hK, hSw, hB, hR1, hR2, hR3, hR4⟩ := b
  intro H locs ls hP hS hL
  exact lv_if_le hx hb hd ht (fun z => kt z H locs ls hP hS hL) (fun z => kf z H locs ls hP hS hL)
theorem w_icmp_eq {x y : Int32} {off : Int} {tgt : Nat} (b : BX X l0 g μ d mc ms) (hd : decode μ.2.1 pc = .ok (.if_icmp .eq off, 3)) (ht : (pc : Int) + off = (tgt : Int))
    (kt : x = y → WW X g μ.2.2.1 Z kc ks tgt L st σ) (kf : ¬ x = y → WW X g μ.2.2.1 Z kc ks (pc + 3) L st σ) : WW X g μ.2.2.1 Z kc ks pc L (.int y :: .int x :: st) σ := by
  obtain ⟨p, l, e, R, s, m, args, below, meth, c⟩ := X
  obtain ⟨hl0, hx, hb, hml, hr, hlk, hnm, hown, hts, hK, hSw, hB, hR1, hR2, hR3, hR4⟩ := b
  intro H locs ls hP hS hL
  exact lv_icmp_eq hx hb hd ht (fun z => kt z H locs ls hP hS hL) (fun z => kf z H locs ls hP hS hL)
theorem w_icmp_ne {x y : Int32} {off : Int} {tgt : Nat} (b : BX X l0 g μ d mc ms) (hd : decode μ.2.1 pc = .ok (.if_icmp .ne off, 3)) (ht : (pc : Int) + off = (tgt : Int))
    (kt : ¬ x = y → WW X g μ.2.2.1 Z kc ks tgt L st σ) (kf : x = y → WW X g μ.2.2.1 Z kc ks (pc + 3) L st σ) : WW X g μ.2.2.1 Z kc ks pc L (.int y :: .int x :: st) σ := by
  obtain ⟨p, l, e, R, s, m, args, below, meth, c⟩ := X
  obtain ⟨hl0, hx, hb, hml, hr, hlk, hnm, hown, hts, hK, hSw, hB, hR1, hR2, hR3, hR4⟩ := b
  intro H locs ls hP hS hL
  exact lv_icmp_ne hx hb hd ht (fun z => kt z H locs ls hP hS hL) (fun z => kf z H locs ls hP hS hL)
theorem w_icmp_lt {x y : Int32} {off : Int} {tgt : Nat} (b : BX X l0 g μ d mc ms) (hd : decode μ.2.1 pc = .ok (.if_icmp .lt off, 3)) (ht : (pc : Int) + off = (tgt : Int))
    (kt : x < y → WW X g μ.2.2.1 Z kc ks tgt L st σ) (kf : ¬ x < y → WW X g μ.2.2.1 Z kc ks (pc + 3) L st σ) : WW X g μ.2.2.1 Z kc ks pc L (.int y :: .int x :: st) σ := by
  obtain ⟨p, l, e, R, s, m, args, below, meth, c⟩ := X
  obtain ⟨hl0, hx, hb, hml, hr, hlk, hnm, hown, hts, hK, hSw, hB, hR1, hR2, hR3, hR4⟩ := b
  intro H locs ls hP hS hL
  exact lv_icmp_lt hx hb hd ht (fun z => kt z H locs ls hP hS hL) (fun z => kf z H locs ls hP hS hL)
theorem w_icmp_ge {x y : Int32} {off : Int} {tgt : Nat} (b : BX X l0 g μ d mc ms) (hd : decode μ.2.1 pc = .ok (.if_icmp .ge off, 3)) (ht : (pc : Int) + off = (tgt : Int))
    (kt : y ≤ x → WW X g μ.2.2.1 Z kc ks tgt L st σ) (kf : ¬ y ≤ x → WW X g μ.2.2.1 Z kc ks (pc + 3) L st σ) : WW X g μ.2.2.1 Z kc ks pc L (.int y :: .int x :: st) σ := by
  obtain ⟨p, l, e, R, s, m, args, below, meth, c⟩ := X
  obtain ⟨hl0, hx, hb, hml, hr, hlk, hnm, hown, hts, hK, hSw, hB, hR1, hR2, hR3, hR4⟩ := b
  intro H locs ls hP hS hL
  exact lv_icmp_ge hx hb hd ht (fun z => kt z H locs ls hP hS hL) (fun z => kf z H locs ls hP hS hL)
theorem w_icmp_gt {x y : Int32} {off : Int} {tgt : Nat} (b : BX X l0 g μ d mc ms) (hd : decode μ.2.1 pc = .ok (.if_icmp .gt off, 3)) (ht : (pc : Int) + off = (tgt : Int))
    (kt : y < x → WW X g μ.2.2.1 Z kc ks tgt L st σ) (kf : ¬ y < x → WW X g μ.2.2.1 Z kc ks (pc + 3) L st σ) : WW X g μ.2.2.1 Z kc ks pc L (.int y :: .int x :: st) σ := by
  obtain ⟨p, l, e, R, s, m, args, below, meth, c⟩ := X
  obtain ⟨hl0, hx, hb, hml, hr, hlk, hnm, hown, hts, hK, hSw, hB, hR1, hR2, hR3, hR4⟩ := b
  intro H locs ls hP hS hL
  exact lv_icmp_gt hx hb hd ht (fun z => kt z H locs ls hP hS hL) (fun z => kf z H locs ls hP hS hL)
theorem w_icmp_le {x y : Int32} {off : Int} {tgt : Nat} (b : BX X l0 g μ d mc ms) (hd : decode μ.2.1 pc = .ok (.if_icmp .le off, 3)) (ht : (pc : Int) + off = (tgt : Int))
    (kt : x ≤ y → WW X g μ.2.2.1 Z kc ks tgt L st σ) (kf : ¬ x ≤ y → WW X g μ.2.2.1 Z kc ks (pc + 3) L st σ) : WW X g μ.2.2.1 Z kc ks pc L (.int y :: .int x :: st) σ := by
  obtain ⟨p, l, e, R, s, m, args, below, meth, c⟩ := X
  obtain ⟨hl0, hx, hb, hml, hr, hlk, hnm, hown, hts, hK, hSw, hB, hR1, hR2, hR3, hR4⟩ := b
  intro H locs ls hP hS hL
  exact lv_icmp_le hx hb hd ht (fun z => kt z H locs ls hP hS hL) (fun z => kf z H locs ls hP hS hL)
theorem w_goto {off : Int} {tgt : Nat} (b : BX X l0 g μ d mc ms) (hd : decode μ.2.1 pc = .ok (.goto off, 3)) (ht : (pc : Int) + off = (tgt : Int))
    (kk : WW X g μ.2.2.1 Z kc ks tgt L st σ) : WW X g μ.2.2.1 Z kc ks pc L st σ := by
  obtain ⟨p, l, e, R, s, m, args, below, meth, c⟩ := X
  obtain ⟨hl0, hx, hb, hml, hr, hlk, hnm, hown, hts, hK, hSw, hB, hR1, hR2, hR3, hR4⟩ := b
  intro H locs ls hP hS hL
  exact lv_goto hx hb hd ht (kk H locs ls hP hS hL)
theorem w_tswI {dflt lo hi : Int} {offs : Array Int} {len : Nat} {x : Int32} {off : Int} {tgt : Nat} (b : BX X l0 g μ d mc ms) (hd : decode μ.2.1 pc = .ok (.tableswitch dflt lo hi offs, len)) (h1 : ¬ x.toInt < lo) (h2 : ¬ hi < x.toInt) (ho : offs[(x.toInt - lo).toNat]? = some off) (ht : (pc : Int) + off = (tgt : Int))
    (kk : WW X g μ.2.2.1 Z kc ks tgt L st σ) : WW X g μ.2.2.1 Z kc ks pc L (.int x :: st) σ := by
  obtain ⟨p, l, e, R, s, m, args, below, meth, c⟩ := X
  obtain ⟨hl0, hx, hb, hml, hr, hlk, hnm, hown, hts, hK, hSw, hB, hR1, hR2, hR3, hR4⟩ := b
  intro H locs ls hP hS hL
  exact lv_tableIn hx hb hd h1 h2 ho ht (kk H locs ls hP hS hL)
theorem w_tswO {dflt lo hi : Int} {offs : Array Int} {len : Nat} {x : Int32} {tgt : Nat} (b : BX X l0 g μ d mc ms) (hd : decode μ.2.1 pc = .ok (.tableswitch dflt lo hi offs, len)) (h : x.toInt < lo ∨ hi < x.toInt) (ht : (pc : Int) + dflt = (tgt : Int))
    (kk : WW X g μ.2.2.1 Z kc ks tgt L st σ) : WW X g μ.2.2.1 Z kc ks pc L (.int x :: st) σ := by
  obtain ⟨p, l, e, R, s, m, args, below, meth, c⟩ := X
  obtain ⟨hl0, hx, hb, hml, hr, hlk, hnm, hown, hts, hK, hSw, hB, hR1, hR2, hR3, hR4⟩ := b
  intro H locs ls hP hS hL
  exact lv_tableOut hx hb hd h ht (kk H locs ls hP hS hL)
theorem w_ifnonnull_r {q : Nat} {off : Int} {tgt : Nat} (b : BX X l0 g μ d mc ms) (hd : decode μ.2.1 pc = .ok (.ifnonnull off, 3)) (ht : (pc : Int) + off = (tgt : Int))
    (kk : WW X g μ.2.2.1 Z kc ks tgt L st σ) : WW X g μ.2.2.1 Z kc ks pc L (.ref q :: st) σ := by
  obtain ⟨p, l, e, R, s, m, args, below, meth, c⟩ := X
  obtain ⟨hl0, hx, hb, hml, hr, hlk, hnm, hown, hts, hK, hSw, hB, hR1, hR2, hR3, hR4⟩ := b
  intro H locs ls hP hS hL
  exact lv_ifnonnull hx hb hd ht (kk H locs ls hP hS hL)
theorem w_ifnonnull_n {off : Int} (b : BX X l0 g μ d mc ms) (hd : decode μ.2.1 pc = .ok (.ifnonnull off, 3)) 
    (kk : WW X g μ.2.2.1 Z kc ks (pc + 3) L st σ) : WW X g μ.2.2.1 Z kc ks pc L (.null :: st) σ := by
  obtain ⟨p, l, e, R, s, m, args, below, meth, c⟩ := X
  obtain ⟨hl0, hx, hb, hml, hr, hlk, hnm, hown, hts, hK, hSw, hB, hR1, hR2, hR3, hR4⟩ := b
  intro H locs ls hP hS hL
  exact lv_ifnonnullN hx hb hd (kk H locs ls hP hS hL)
def ZQ (X : Cx) (g : Gw) (Q : Option Value → Sg → Prop) (mc ms : Nat) : State → Prop := match X with
  | (_, _, _, _, s, _, args, below, _, _) => MQ below (Qm g Q) args s mc ms (gF g)
variable {Q : Option Value → Sg → Prop}
theorem w_iret {v : Int32} (b : BX X l0 g μ d mc ms) (hd : decode μ.2.1 pc = .ok (.ireturn, 1)) (hrt : μ.2.2.2 = some .int) (hk : kc ≤ mc) (hs : ks ≤ ms) (hq : Q (some (.int v)) σ) : WW X g μ.2.2.1 (ZQ X g Q mc ms) kc ks pc L [.int v] σ := by
  obtain ⟨p, l, e, R, s, m, args, below, meth, c⟩ := X
  obtain ⟨hl0, hx, hb, hml, hr, hlk, hnm, hown, hts, hK, hSw, hB, hR1, hR2, hR3, hR4⟩ := b
  intro H locs ls hP hS hL
  refine W.widen hk hs ?_
  exact W.iret hx hb (hr.trans hrt) (fun t ht hW => ⟨⟨_, σ, rfl, hq, by rw [ht]; exact hP⟩, hS.F ht⟩) hS.2.2 hd
theorem w_zret {v : Int32} (b : BX X l0 g μ d mc ms) (hd : decode μ.2.1 pc = .ok (.ireturn, 1)) (hrt : μ.2.2.2 = some .boolean) (hv : narrow .boolean (.int v) = .int v) (hk : kc ≤ mc) (hs : ks ≤ ms) (hq : Q (some (.int v)) σ) : WW X g μ.2.2.1 (ZQ X g Q mc ms) kc ks pc L [.int v] σ := by
  obtain ⟨p, l, e, R, s, m, args, below, meth, c⟩ := X
  obtain ⟨hl0, hx, hb, hml, hr, hlk, hnm, hown, hts, hK, hSw, hB, hR1, hR2, hR3, hR4⟩ := b
  intro H locs ls hP hS hL
  refine W.widen hk hs ?_
  exact W.zret hx hb (hr.trans hrt) hv (fun t ht hW => ⟨⟨_, σ, rfl, hq, by rw [ht]; exact hP⟩, hS.F ht⟩) hS.2.2 hd
theorem w_vret  (b : BX X l0 g μ d mc ms) (hd : decode μ.2.1 pc = .ok (.return_, 1)) (hrt : μ.2.2.2 = none) (hk : kc ≤ mc) (hs : ks ≤ ms) (hq : Q none σ) : WW X g μ.2.2.1 (ZQ X g Q mc ms) kc ks pc L [] σ := by
  obtain ⟨p, l, e, R, s, m, args, below, meth, c⟩ := X
  obtain ⟨hl0, hx, hb, hml, hr, hlk, hnm, hown, hts, hK, hSw, hB, hR1, hR2, hR3, hR4⟩ := b
  intro H locs ls hP hS hL
  refine W.widen hk hs ?_
  exact W.vret hx hb (hr.trans hrt) (fun t ht hW => ⟨⟨_, σ, rfl, hq, by rw [ht]; exact hP⟩, hS.F ht⟩) hS.2.2 hd
theorem w_lret {v : Int64} (b : BX X l0 g μ d mc ms) (hd : decode μ.2.1 pc = .ok (.lreturn, 1)) (hrt : μ.2.2.2 = some .long) (hk : kc ≤ mc) (hs : ks ≤ ms) (hq : Q (some (.long v)) σ) : WW X g μ.2.2.1 (ZQ X g Q mc ms) kc ks pc L [.long v] σ := by
  obtain ⟨p, l, e, R, s, m, args, below, meth, c⟩ := X
  obtain ⟨hl0, hx, hb, hml, hr, hlk, hnm, hown, hts, hK, hSw, hB, hR1, hR2, hR3, hR4⟩ := b
  intro H locs ls hP hS hL
  refine W.widen hk hs ?_
  exact W.lret hx hb (hr.trans hrt) (fun t ht hW => ⟨⟨_, σ, rfl, hq, by rw [ht]; exact hP⟩, hS.F ht⟩) hS.2.2 hd
theorem w_aret {v : Value} {rt : FieldType} (b : BX X l0 g μ d mc ms) (hd : decode μ.2.1 pc = .ok (.areturn, 1)) (hrt : μ.2.2.2 = some rt) (hrr : (∃ n, rt = .object n) ∨ ∃ t, rt = .array t) (hv : isR v = true) (hk : kc ≤ mc) (hs : ks ≤ ms) (hq : Q (some v) σ) : WW X g μ.2.2.1 (ZQ X g Q mc ms) kc ks pc L [v] σ := by
  obtain ⟨p, l, e, R, s, m, args, below, meth, c⟩ := X
  obtain ⟨hl0, hx, hb, hml, hr, hlk, hnm, hown, hts, hK, hSw, hB, hR1, hR2, hR3, hR4⟩ := b
  intro H locs ls hP hS hL
  refine W.widen hk hs ?_
  exact W.aret hx hb (hr.trans hrt) hrr (by cases v <;> first | exact Or.inl rfl | exact Or.inr ⟨_, rfl⟩ | cases hv) (fun t ht hW => ⟨⟨_, σ, rfl, hq, by rw [ht]; exact hP⟩, hS.F ht⟩) hS.2.2 hd
end FWR
