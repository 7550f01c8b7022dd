/-! THE REFERENCE: its constructor (by p41.py) -/
theorem iI_divT {a b : Int} (ha : inR a) (hb : 0 < b ∧ b < 2147483648) : iI a / iI b = iI (a.tdiv b) := by
  have h1 : inR (a.tdiv b) := by
    have h2 := Int.tdiv_le_self b (a := a.natAbs) (by omega)
    rcases Int.le_total 0 a with z | z
    · have e1 := Int.tdiv_nonneg z (by omega : 0 ≤ b)
      have e2 := Int.tdiv_le_self b z
      exact ⟨by omega, by omega⟩
    · have e1 := Int.tdiv_nonneg (show 0 ≤ -a by omega) (by omega : 0 ≤ b)
      have e2 := Int.tdiv_le_self b (show 0 ≤ -a by omega)
      rw [Int.neg_tdiv] at e1 e2
      exact ⟨by omega, by omega⟩
  apply Int32.toInt_inj.mp
  rw [Int32.toInt_div, iI_toInt ha, iI_toInt ⟨by omega, hb.2⟩, iI_toInt h1]
  show (a.tdiv b).bmod 4294967296 = a.tdiv b
  exact Int.bmod_eq_of_le (by omega) (by omega)
theorem iI_remT {a b : Int} (ha : inR a) (hb : 0 < b ∧ b < 2147483648) : iI a - iI a / iI b * iI b = iI (a.tmod b) := by
  rw [iI_divT ha hb, iI_mul, iI_sub]
  congr 1
  have := Int.mul_tdiv_add_tmod a b
  rw [Int.mul_comm] at this
  omega
theorem z_iremT {X : Cx} {l0 : Launch} {g : Gw} {μ : Md} {d mc ms : Nat} {Z : State → Prop} {kc ks pc : Nat} {L : List (Option Value)} {st : List Value} {σ : Sg} {x y : Int} (b : BX X l0 g μ d mc ms) (hd : decode μ.2.1 pc = .ok (.irem, 1)) (h : inR x ∧ 0 < y ∧ y < 2147483648) (kk : WW X g μ.2.2.1 Z kc ks (pc + 1) L (.int (iI (x.tmod y)) :: st) σ) : WW X g μ.2.2.1 Z kc ks pc L (.int (iI y) :: .int (iI x) :: st) σ := w_irem b hd (fun z => by have := (iI_eq (b := 0) ⟨by omega, h.2.2⟩ ⟨by omega, by omega⟩).mp z; omega) (by rw [iI_remT h.1 h.2]; exact kk)
/-- an object of the reference that is being made: its fields, its arrays so far -/
def pm (mo : Nat) (h : Nat → va_E) (fs : List Value) (as : List (Nat × (Int → Int))) : Nat → va_E := fun q => if q = mo then .inr (9, fs) else if mo < q then (match as[q - (mo + 1)]? with
  | some (n, f) => iarr 0 n f
  | none => h q) else h q
theorem pm_obj (mo : Nat) (h : Nat → va_E) (fs : List Value) (as : List (Nat × (Int → Int))) : pm mo h fs as mo = .inr (9, fs) := by simp [pm]
theorem pm_arr {mo : Nat} {h : Nat → va_E} {fs : List Value} {as : List (Nat × (Int → Int))} {p n : Nat} {f : Int → Int} (hp : as[p]? = some (n, f)) : pm mo h fs as (mo + 1 + p) = iarr 0 n f := by
  unfold pm
  rw [if_neg (by omega), if_pos (by omega), show mo + 1 + p - (mo + 1) = p by omega, hp]
theorem pm_new (mo : Nat) (h : Nat → va_E) (fs : List Value) (as : List (Nat × (Int → Int))) (n : Nat) (f : Int → Int) : va_up (pm mo h fs as) (mo + 1 + as.length) (iarr 0 n f) = pm mo h fs (as ++ [(n, f)]) := by
  funext q
  by_cases e : q = mo + 1 + as.length
  · subst e
    rw [va_up_self, pm_arr (by rw [List.getElem?_append_right (Nat.le_refl _), Nat.sub_self]; rfl)]
  · rw [va_up_ne _ _ e]
    unfold pm
    by_cases h1 : q = mo
    · rw [if_pos h1, if_pos h1]
    · rw [if_neg h1, if_neg h1]
      by_cases h2 : mo < q
      · rw [if_pos h2, if_pos h2]
        by_cases h3 : q - (mo + 1) < as.length
        · rw [List.getElem?_append_left h3]
        · rw [List.getElem?_eq_none (by omega), List.getElem?_eq_none (by rw [List.length_append]; show as.length + 1 ≤ _; omega)]
      · rw [if_neg h2, if_neg h2]
theorem pm_put (mo : Nat) (h : Nat → va_E) (fs fs' : List Value) (as : List (Nat × (Int → Int))) : va_up (pm mo h fs as) mo (.inr (9, fs')) = pm mo h fs' as := by
  funext q
  by_cases e : q = mo
  · subst e; rw [va_up_self, pm_obj]
  · rw [va_up_ne _ _ e]
    unfold pm
    rw [if_neg e, if_neg e]
theorem pm_set {mo : Nat} {h : Nat → va_E} {fs : List Value} {as : List (Nat × (Int → Int))} {p n : Nat} {f f' : Int → Int} (hp : as[p]? = some (n, f)) : va_up (pm mo h fs as) (mo + 1 + p) (iarr 0 n f') = pm mo h fs (as.set p (n, f')) := by
  have hl := (List.getElem?_eq_some_iff.mp hp).1
  funext q
  by_cases e : q = mo + 1 + p
  · subst e
    rw [va_up_self, pm_arr (List.getElem?_set_self hl)]
  · rw [va_up_ne _ _ e]
    unfold pm
    by_cases h1 : q = mo
    · rw [if_pos h1, if_pos h1]
    · rw [if_neg h1, if_neg h1]
      by_cases h2 : mo < q
      · rw [if_pos h2, if_pos h2, List.getElem?_set_ne (by omega)]
      · rw [if_neg h2, if_neg h2]
section PM
variable {X : Cx} {l0 : Launch} {g : Gw} {μ : Md} {d mc ms : Nat} {Z : State → Prop} {kc ks pc : Nat} {L : List (Option Value)} {st : List Value} {mo : Nat} {h : Nat → va_E} {fs : List Value} {as : List (Nat × (Int → Int))}
theorem p_newa {n : Int} {N len : Nat} (as' : List (Nat × (Int → Int))) (has : as ++ [(N, fun _ => 0)] = as') (b : BX X l0 g μ d mc ms) (hd : decode μ.2.1 pc = .ok (.newarray .int, 2)) (hl : as.length = len) (hN : n = (N : Int)) (hb8 : N ≤ 67108864) (hkc : kc + 1 ≤ mc) (hks : ks + N ≤ ms)
    (kk : WW X g μ.2.2.1 Z (kc + 1) (ks + N) (pc + 2) L (.ref (mo + 1 + len) :: st) (pm mo h fs as', mo + 1 + (len + 1))) : WW X g μ.2.2.1 Z kc ks pc L (.int (iI n) :: st) (pm mo h fs as, mo + 1 + len) := by
  subst hl; subst has
  refine z_newa (t := 0) b hd la_int (by omega) hN hb8 hkc hks ?_
  show WW X g μ.2.2.1 Z (kc + 1) (ks + N) (pc + 2) L (.ref (mo + 1 + as.length) :: st) (va_up (pm mo h fs as) (mo + 1 + as.length) (iarr 0 N (fun _ => 0)), mo + 1 + as.length + 1)
  rw [pm_new]
  exact kk
theorem p_put {idx k len : Nat} {v : Value} {ty : FieldType} {fin : Bool} (fs' : List Value) (hfs : fs.set k v = fs') (b : BX X l0 g μ d mc ms) (hd : decode μ.2.1 pc = .ok (.putfield idx, 3)) (lk : GF μ.1.cls idx 9 k) (gt : GT μ.1.cls 9 k ty fin) (hin : fin = true → μ.1.name = "<init>") (hl : k < fs.length) (hn : narrow ty (cv g v) = cv g v) (hfit : fits ty (cv g v) = true)
    (kk : WW X g μ.2.2.1 Z kc ks (pc + 3) L st (pm mo h fs' as, mo + 1 + len)) : WW X g μ.2.2.1 Z kc ks pc L (v :: .ref mo :: st) (pm mo h fs as, mo + 1 + len) := by
  subst hfs
  refine w_putf b hd lk gcX9 gt hin (pm_obj mo h fs as) hl hn hfit ?_
  show WW X g μ.2.2.1 Z kc ks (pc + 3) L st (va_up (pm mo h fs as) mo (.inr (9, fs.set k v)), mo + 1 + len)
  rw [pm_put]
  exact kk
theorem p_ast {p n len : Nat} {f : Int → Int} {i v : Int} (as' : List (Nat × (Int → Int))) (has : as.set p (n, fu f i v) = as') (b : BX X l0 g μ d mc ms) (hd : decode μ.2.1 pc = .ok (.iastore, 1)) (hp : as[p]? = some (n, f)) (hi : 0 ≤ i ∧ i < (n : Int) ∧ i < 2147483648) (kk : WW X g μ.2.2.1 Z kc ks (pc + 1) L st (pm mo h fs as', mo + 1 + len)) : WW X g μ.2.2.1 Z kc ks pc L (.int (iI v) :: .int (iI i) :: .ref (mo + 1 + p) :: st) (pm mo h fs as, mo + 1 + len) := by
  subst has
  refine z_iast b hd (pm_arr hp) hi ?_
  show WW X g μ.2.2.1 Z kc ks (pc + 1) L st (va_up (pm mo h fs as) (mo + 1 + p) (iarr 0 n (fu f i v)), mo + 1 + len)
  rw [pm_set hp]
  exact kk
end PM
theorem pm_mp {mo : Nat} {h : Nat → va_E} {I : Nat → Int} {F : Nat → Int → Int} {as : List (Nat × (Int → Int))} (hl : as.length = 32) (ha : ∀ (p k n : Nat), marr[p]? = some (k, n) → as[p]? = some (n, F k)) : pm mo h (mfs mo I) as = mp mo h I F := by
  funext q
  unfold pm mp
  by_cases h1 : q = mo
  · rw [if_pos h1, if_pos h1]
  · rw [if_neg h1, if_neg h1]
    by_cases h2 : mo < q
    · rw [if_pos h2, if_pos h2]
      by_cases h3 : q - (mo + 1) < 32
      · have h5 : marr[q - (mo + 1)]? = some (marr[q - (mo + 1)]'h3) := List.getElem?_eq_getElem h3
        have h6 := ha (q - (mo + 1)) (marr[q - (mo + 1)]'h3).1 (marr[q - (mo + 1)]'h3).2 h5
        rw [h5, h6]
      · rw [List.getElem?_eq_none (by omega), List.getElem?_eq_none (by show 32 ≤ q - (mo + 1); omega)]
    · rw [if_neg h2, if_neg h2]
/-- the reference's state when it has been made -/
def I0 (x : Int) : Nat → Int := fun k => if k = 1 then 4 + x % 37 else 0
def F0_ : Nat → Int → Int := fun k => if k = 16 then fu (fu (fu (fu (fu (fu (fun _ => 0) 0 8) 1 8) 2 8) 3 8) 4 8) 5 8 else if k = 17 then fu (fu (fu (fu (fu (fu (fun _ => 0) 0 5) 1 5) 2 5) 3 5) 4 5) 5 5 else fun _ => 0
theorem tmod37 (x : Int) : (x.tmod 37 + 37) % 37 = x % 37 := by
  rcases Int.le_total 0 x with z | z
  · rw [Int.tmod_eq_emod_of_nonneg z]
    omega
  · have e := Int.mul_tdiv_add_tmod x 37
    omega
set_option maxRecDepth 20000 in
theorem hfin_X9 {mo : Nat} {h : Nat → va_E} {x : Int} : pm mo h [.int (iI 0), .int (iI (4 + (x.tmod 37 + 37) % 37)), .int (iI 0), .ref (mo + 1 + 0), .ref (mo + 1 + 1), .ref (mo + 1 + 2), .ref (mo + 1 + 3), .ref (mo + 1 + 4), .ref (mo + 1 + 5), .ref (mo + 1 + 6), .ref (mo + 1 + 7), .ref (mo + 1 + 8), .ref (mo + 1 + 9), .int (iI 0), .int (iI 0), .int (iI 0), .ref (mo + 1 + 10), .ref (mo + 1 + 11), .ref (mo + 1 + 12), .ref (mo + 1 + 13), .ref (mo + 1 + 14), .int (iI 0), .ref (mo + 1 + 15), .ref (mo + 1 + 16), .ref (mo + 1 + 17), .ref (mo + 1 + 18), .ref (mo + 1 + 19), .int (iI 0), .int (iI 0), .int (iI 0), .ref (mo + 1 + 20), .ref (mo + 1 + 21), .ref (mo + 1 + 22), .ref (mo + 1 + 23), .ref (mo + 1 + 24), .ref (mo + 1 + 25), .ref (mo + 1 + 26), .ref (mo + 1 + 27), .ref (mo + 1 + 28), .ref (mo + 1 + 29), .ref (mo + 1 + 30), .ref (mo + 1 + 31)] [(12, fun _ => 0), (144, fun _ => 0), (144, fun _ => 0), (144, fun _ => 0), (1000, fun _ => 0), (12, fun _ => 0), (13, fun _ => 0), (13, fun _ => 0), (13, fun _ => 0), (13, fun _ => 0), (6, fu (fu (fu (fu (fu (fu (fun _ => 0) 0 8) 1 8) 2 8) 3 8) 4 8) 5 8), (6, fu (fu (fu (fu (fu (fu (fun _ => 0) 0 5) 1 5) 2 5) 3 5) 4 5) 5 5), (8, fun _ => 0), (80, fun _ => 0), (80, fun _ => 0), (1600, fun _ => 0), (1600, fun _ => 0), (1600, fun _ => 0), (1600, fun _ => 0), (40, fun _ => 0), (8, fun _ => 0), (8, fun _ => 0), (7, fun _ => 0), (15, fun _ => 0), (15, fun _ => 0), (8, fun _ => 0), (8, fun _ => 0), (8, fun _ => 0), (8, fun _ => 0), (8, fun _ => 0), (480, fun _ => 0), (60, fun _ => 0)] = mp mo h (I0 x) F0_ := by
    rw [tmod37]
    refine Eq.trans (show _ = pm mo h (mfs mo (I0 x)) [(12, fun _ => 0), (144, fun _ => 0), (144, fun _ => 0), (144, fun _ => 0), (1000, fun _ => 0), (12, fun _ => 0), (13, fun _ => 0), (13, fun _ => 0), (13, fun _ => 0), (13, fun _ => 0), (6, fu (fu (fu (fu (fu (fu (fun _ => 0) 0 8) 1 8) 2 8) 3 8) 4 8) 5 8), (6, fu (fu (fu (fu (fu (fu (fun _ => 0) 0 5) 1 5) 2 5) 3 5) 4 5) 5 5), (8, fun _ => 0), (80, fun _ => 0), (80, fun _ => 0), (1600, fun _ => 0), (1600, fun _ => 0), (1600, fun _ => 0), (1600, fun _ => 0), (40, fun _ => 0), (8, fun _ => 0), (8, fun _ => 0), (7, fun _ => 0), (15, fun _ => 0), (15, fun _ => 0), (8, fun _ => 0), (8, fun _ => 0), (8, fun _ => 0), (8, fun _ => 0), (8, fun _ => 0), (480, fun _ => 0), (60, fun _ => 0)] from rfl) (pm_mp rfl (fun p k n hp => ?_))
    have hp32 : p < 32 := (List.getElem?_eq_some_iff.mp hp).1
    rcases (show p = 0 ∨ p = 1 ∨ p = 2 ∨ p = 3 ∨ p = 4 ∨ p = 5 ∨ p = 6 ∨ p = 7 ∨ p = 8 ∨ p = 9 ∨ p = 10 ∨ p = 11 ∨ p = 12 ∨ p = 13 ∨ p = 14 ∨ p = 15 ∨ p = 16 ∨ p = 17 ∨ p = 18 ∨ p = 19 ∨ p = 20 ∨ p = 21 ∨ p = 22 ∨ p = 23 ∨ p = 24 ∨ p = 25 ∨ p = 26 ∨ p = 27 ∨ p = 28 ∨ p = 29 ∨ p = 30 ∨ p = 31 by omega) with rfl | rfl | rfl | rfl | rfl | rfl | rfl | rfl | rfl | rfl | rfl | rfl | rfl | rfl | rfl | rfl | rfl | rfl | rfl | rfl | rfl | rfl | rfl | rfl | rfl | rfl | rfl | rfl | rfl | rfl | rfl | rfl <;> (cases hp; rfl)
set_option maxRecDepth 20000 in
theorem k_X9_init {l0 : Launch} {g : Gw} {mo : Nat} {h : Nat → va_E} {x : Int} (hx : inR x) : MD l0 g 1 mX9_init (pm mo h [.int 0, .int 0, .int 0, .null, .null, .null, .null, .null, .null, .null, .null, .null, .null, .int 0, .int 0, .int 0, .null, .null, .null, .null, .null, .int 0, .null, .null, .null, .null, .null, .int 0, .int 0, .int 0, .null, .null, .null, .null, .null, .null, .null, .null, .null, .null, .null, .null] [], mo + 1 + 0) [.ref mo, .int (iI x)] 32 8761 none (mp mo h (I0 x) F0_, mo + 1 + 32) := by
  refine MD.of (by decide +kernel) (by simp [Value.category]) (tle rfl) (fun X b => ?_)
  change WW X g _ _ 0 0 0 [some (.ref mo), some (.int (iI x))] [] _
  refine w_aload_n b dX9_init_0 rfl rfl ?_
  refine w_objInit b dX9_init_1 loX9_7 lo_inst lo_code (tle rfl) (by omega) ?_
  refine w_aload_n b dX9_init_4 rfl rfl ?_
  refine z_iconst b dX9_init_5 ?_
  refine p_put [.int (iI 0), .int 0, .int 0, .null, .null, .null, .null, .null, .null, .null, .null, .null, .null, .int 0, .int 0, .int 0, .null, .null, .null, .null, .null, .int 0, .null, .null, .null, .null, .null, .int 0, .int 0, .int 0, .null, .null, .null, .null, .null, .null, .null, .null, .null, .null, .null, .null] rfl b dX9_init_6 lfX9_1 gtX9_0 (fun z => by cases z) (tlt rfl) rfl rfl ?_
  refine w_aload_n b dX9_init_9 rfl rfl ?_
  refine z_iconst b dX9_init_10 ?_
  refine p_put [.int (iI 0), .int 0, .int (iI 0), .null, .null, .null, .null, .null, .null, .null, .null, .null, .null, .int 0, .int 0, .int 0, .null, .null, .null, .null, .null, .int 0, .null, .null, .null, .null, .null, .int 0, .int 0, .int 0, .null, .null, .null, .null, .null, .null, .null, .null, .null, .null, .null, .null] rfl b dX9_init_11 lfX9_13 gtX9_2 (fun z => by cases z) (tlt rfl) rfl rfl ?_
  refine w_aload_n b dX9_init_14 rfl rfl ?_
  refine z_bipush b dX9_init_15 (by decide) ?_
  refine p_newa (N := 12) (len := 0) [(12, fun _ => 0)] rfl b dX9_init_17 rfl rfl (by omega) (by omega) (by omega) ?_
  refine p_put [.int (iI 0), .int 0, .int (iI 0), .ref (mo + 1 + 0), .null, .null, .null, .null, .null, .null, .null, .null, .null, .int 0, .int 0, .int 0, .null, .null, .null, .null, .null, .int 0, .null, .null, .null, .null, .null, .int 0, .int 0, .int 0, .null, .null, .null, .null, .null, .null, .null, .null, .null, .null, .null, .null] rfl b dX9_init_19 lfX9_16 gtX9_3 (fun _ => rfl) (tlt rfl) rfl rfl ?_
  refine w_aload_n b dX9_init_22 rfl rfl ?_
  refine z_sipush b dX9_init_23 (by decide) ?_
  refine p_newa (N := 144) (len := 1) [(12, fun _ => 0), (144, fun _ => 0)] rfl b dX9_init_26 rfl rfl (by omega) (by omega) (by omega) ?_
  refine p_put [.int (iI 0), .int 0, .int (iI 0), .ref (mo + 1 + 0), .ref (mo + 1 + 1), .null, .null, .null, .null, .null, .null, .null, .null, .int 0, .int 0, .int 0, .null, .null, .null, .null, .null, .int 0, .null, .null, .null, .null, .null, .int 0, .int 0, .int 0, .null, .null, .null, .null, .null, .null, .null, .null, .null, .null, .null, .null] rfl b dX9_init_28 lfX9_20 gtX9_4 (fun _ => rfl) (tlt rfl) rfl rfl ?_
  refine w_aload_n b dX9_init_31 rfl rfl ?_
  refine z_sipush b dX9_init_32 (by decide) ?_
  refine p_newa (N := 144) (len := 2) [(12, fun _ => 0), (144, fun _ => 0), (144, fun _ => 0)] rfl b dX9_init_35 rfl rfl (by omega) (by omega) (by omega) ?_
  refine p_put [.int (iI 0), .int 0, .int (iI 0), .ref (mo + 1 + 0), .ref (mo + 1 + 1), .ref (mo + 1 + 2), .null, .null, .null, .null, .null, .null, .null, .int 0, .int 0, .int 0, .null, .null, .null, .null, .null, .int 0, .null, .null, .null, .null, .null, .int 0, .int 0, .int 0, .null, .null, .null, .null, .null, .null, .null, .null, .null, .null, .null, .null] rfl b dX9_init_37 lfX9_23 gtX9_5 (fun _ => rfl) (tlt rfl) rfl rfl ?_
  refine w_aload_n b dX9_init_40 rfl rfl ?_
  refine z_sipush b dX9_init_41 (by decide) ?_
  refine p_newa (N := 144) (len := 3) [(12, fun _ => 0), (144, fun _ => 0), (144, fun _ => 0), (144, fun _ => 0)] rfl b dX9_init_44 rfl rfl (by omega) (by omega) (by omega) ?_
  refine p_put [.int (iI 0), .int 0, .int (iI 0), .ref (mo + 1 + 0), .ref (mo + 1 + 1), .ref (mo + 1 + 2), .ref (mo + 1 + 3), .null, .null, .null, .null, .null, .null, .int 0, .int 0, .int 0, .null, .null, .null, .null, .null, .int 0, .null, .null, .null, .null, .null, .int 0, .int 0, .int 0, .null, .null, .null, .null, .null, .null, .null, .null, .null, .null, .null, .null] rfl b dX9_init_46 lfX9_26 gtX9_6 (fun _ => rfl) (tlt rfl) rfl rfl ?_
  refine w_aload_n b dX9_init_49 rfl rfl ?_
  refine z_sipush b dX9_init_50 (by decide) ?_
  refine p_newa (N := 1000) (len := 4) [(12, fun _ => 0), (144, fun _ => 0), (144, fun _ => 0), (144, fun _ => 0), (1000, fun _ => 0)] rfl b dX9_init_53 rfl rfl (by omega) (by omega) (by omega) ?_
  refine p_put [.int (iI 0), .int 0, .int (iI 0), .ref (mo + 1 + 0), .ref (mo + 1 + 1), .ref (mo + 1 + 2), .ref (mo + 1 + 3), .ref (mo + 1 + 4), .null, .null, .null, .null, .null, .int 0, .int 0, .int 0, .null, .null, .null, .null, .null, .int 0, .null, .null, .null, .null, .null, .int 0, .int 0, .int 0, .null, .null, .null, .null, .null, .null, .null, .null, .null, .null, .null, .null] rfl b dX9_init_55 lfX9_29 gtX9_7 (fun _ => rfl) (tlt rfl) rfl rfl ?_
  refine w_aload_n b dX9_init_58 rfl rfl ?_
  refine z_bipush b dX9_init_59 (by decide) ?_
  refine p_newa (N := 12) (len := 5) [(12, fun _ => 0), (144, fun _ => 0), (144, fun _ => 0), (144, fun _ => 0), (1000, fun _ => 0), (12, fun _ => 0)] rfl b dX9_init_61 rfl rfl (by omega) (by omega) (by omega) ?_
  refine p_put [.int (iI 0), .int 0, .int (iI 0), .ref (mo + 1 + 0), .ref (mo + 1 + 1), .ref (mo + 1 + 2), .ref (mo + 1 + 3), .ref (mo + 1 + 4), .ref (mo + 1 + 5), .null, .null, .null, .null, .int 0, .int 0, .int 0, .null, .null, .null, .null, .null, .int 0, .null, .null, .null, .null, .null, .int 0, .int 0, .int 0, .null, .null, .null, .null, .null, .null, .null, .null, .null, .null, .null, .null] rfl b dX9_init_63 lfX9_32 gtX9_8 (fun _ => rfl) (tlt rfl) rfl rfl ?_
  refine w_aload_n b dX9_init_66 rfl rfl ?_
  refine z_bipush b dX9_init_67 (by decide) ?_
  refine p_newa (N := 13) (len := 6) [(12, fun _ => 0), (144, fun _ => 0), (144, fun _ => 0), (144, fun _ => 0), (1000, fun _ => 0), (12, fun _ => 0), (13, fun _ => 0)] rfl b dX9_init_69 rfl rfl (by omega) (by omega) (by omega) ?_
  refine p_put [.int (iI 0), .int 0, .int (iI 0), .ref (mo + 1 + 0), .ref (mo + 1 + 1), .ref (mo + 1 + 2), .ref (mo + 1 + 3), .ref (mo + 1 + 4), .ref (mo + 1 + 5), .ref (mo + 1 + 6), .null, .null, .null, .int 0, .int 0, .int 0, .null, .null, .null, .null, .null, .int 0, .null, .null, .null, .null, .null, .int 0, .int 0, .int 0, .null, .null, .null, .null, .null, .null, .null, .null, .null, .null, .null, .null] rfl b dX9_init_71 lfX9_35 gtX9_9 (fun _ => rfl) (tlt rfl) rfl rfl ?_
  refine w_aload_n b dX9_init_74 rfl rfl ?_
  refine z_bipush b dX9_init_75 (by decide) ?_
  refine p_newa (N := 13) (len := 7) [(12, fun _ => 0), (144, fun _ => 0), (144, fun _ => 0), (144, fun _ => 0), (1000, fun _ => 0), (12, fun _ => 0), (13, fun _ => 0), (13, fun _ => 0)] rfl b dX9_init_77 rfl rfl (by omega) (by omega) (by omega) ?_
  refine p_put [.int (iI 0), .int 0, .int (iI 0), .ref (mo + 1 + 0), .ref (mo + 1 + 1), .ref (mo + 1 + 2), .ref (mo + 1 + 3), .ref (mo + 1 + 4), .ref (mo + 1 + 5), .ref (mo + 1 + 6), .ref (mo + 1 + 7), .null, .null, .int 0, .int 0, .int 0, .null, .null, .null, .null, .null, .int 0, .null, .null, .null, .null, .null, .int 0, .int 0, .int 0, .null, .null, .null, .null, .null, .null, .null, .null, .null, .null, .null, .null] rfl b dX9_init_79 lfX9_38 gtX9_10 (fun _ => rfl) (tlt rfl) rfl rfl ?_
  refine w_aload_n b dX9_init_82 rfl rfl ?_
  refine z_bipush b dX9_init_83 (by decide) ?_
  refine p_newa (N := 13) (len := 8) [(12, fun _ => 0), (144, fun _ => 0), (144, fun _ => 0), (144, fun _ => 0), (1000, fun _ => 0), (12, fun _ => 0), (13, fun _ => 0), (13, fun _ => 0), (13, fun _ => 0)] rfl b dX9_init_85 rfl rfl (by omega) (by omega) (by omega) ?_
  refine p_put [.int (iI 0), .int 0, .int (iI 0), .ref (mo + 1 + 0), .ref (mo + 1 + 1), .ref (mo + 1 + 2), .ref (mo + 1 + 3), .ref (mo + 1 + 4), .ref (mo + 1 + 5), .ref (mo + 1 + 6), .ref (mo + 1 + 7), .ref (mo + 1 + 8), .null, .int 0, .int 0, .int 0, .null, .null, .null, .null, .null, .int 0, .null, .null, .null, .null, .null, .int 0, .int 0, .int 0, .null, .null, .null, .null, .null, .null, .null, .null, .null, .null, .null, .null] rfl b dX9_init_87 lfX9_41 gtX9_11 (fun _ => rfl) (tlt rfl) rfl rfl ?_
  refine w_aload_n b dX9_init_90 rfl rfl ?_
  refine z_bipush b dX9_init_91 (by decide) ?_
  refine p_newa (N := 13) (len := 9) [(12, fun _ => 0), (144, fun _ => 0), (144, fun _ => 0), (144, fun _ => 0), (1000, fun _ => 0), (12, fun _ => 0), (13, fun _ => 0), (13, fun _ => 0), (13, fun _ => 0), (13, fun _ => 0)] rfl b dX9_init_93 rfl rfl (by omega) (by omega) (by omega) ?_
  refine p_put [.int (iI 0), .int 0, .int (iI 0), .ref (mo + 1 + 0), .ref (mo + 1 + 1), .ref (mo + 1 + 2), .ref (mo + 1 + 3), .ref (mo + 1 + 4), .ref (mo + 1 + 5), .ref (mo + 1 + 6), .ref (mo + 1 + 7), .ref (mo + 1 + 8), .ref (mo + 1 + 9), .int 0, .int 0, .int 0, .null, .null, .null, .null, .null, .int 0, .null, .null, .null, .null, .null, .int 0, .int 0, .int 0, .null, .null, .null, .null, .null, .null, .null, .null, .null, .null, .null, .null] rfl b dX9_init_95 lfX9_44 gtX9_12 (fun _ => rfl) (tlt rfl) rfl rfl ?_
  refine w_aload_n b dX9_init_98 rfl rfl ?_
  refine z_iconst b dX9_init_99 ?_
  refine p_put [.int (iI 0), .int 0, .int (iI 0), .ref (mo + 1 + 0), .ref (mo + 1 + 1), .ref (mo + 1 + 2), .ref (mo + 1 + 3), .ref (mo + 1 + 4), .ref (mo + 1 + 5), .ref (mo + 1 + 6), .ref (mo + 1 + 7), .ref (mo + 1 + 8), .ref (mo + 1 + 9), .int (iI 0), .int 0, .int 0, .null, .null, .null, .null, .null, .int 0, .null, .null, .null, .null, .null, .int 0, .int 0, .int 0, .null, .null, .null, .null, .null, .null, .null, .null, .null, .null, .null, .null] rfl b dX9_init_100 lfX9_47 gtX9_13 (fun z => by cases z) (tlt rfl) rfl rfl ?_
  refine w_aload_n b dX9_init_103 rfl rfl ?_
  refine z_iconst b dX9_init_104 ?_
  refine p_put [.int (iI 0), .int 0, .int (iI 0), .ref (mo + 1 + 0), .ref (mo + 1 + 1), .ref (mo + 1 + 2), .ref (mo + 1 + 3), .ref (mo + 1 + 4), .ref (mo + 1 + 5), .ref (mo + 1 + 6), .ref (mo + 1 + 7), .ref (mo + 1 + 8), .ref (mo + 1 + 9), .int (iI 0), .int (iI 0), .int 0, .null, .null, .null, .null, .null, .int 0, .null, .null, .null, .null, .null, .int 0, .int 0, .int 0, .null, .null, .null, .null, .null, .null, .null, .null, .null, .null, .null, .null] rfl b dX9_init_105 lfX9_50 gtX9_14 (fun z => by cases z) (tlt rfl) rfl rfl ?_
  refine w_aload_n b dX9_init_108 rfl rfl ?_
  refine z_iconst b dX9_init_109 ?_
  refine p_put [.int (iI 0), .int 0, .int (iI 0), .ref (mo + 1 + 0), .ref (mo + 1 + 1), .ref (mo + 1 + 2), .ref (mo + 1 + 3), .ref (mo + 1 + 4), .ref (mo + 1 + 5), .ref (mo + 1 + 6), .ref (mo + 1 + 7), .ref (mo + 1 + 8), .ref (mo + 1 + 9), .int (iI 0), .int (iI 0), .int (iI 0), .null, .null, .null, .null, .null, .int 0, .null, .null, .null, .null, .null, .int 0, .int 0, .int 0, .null, .null, .null, .null, .null, .null, .null, .null, .null, .null, .null, .null] rfl b dX9_init_110 lfX9_53 gtX9_15 (fun z => by cases z) (tlt rfl) rfl rfl ?_
  refine w_aload_n b dX9_init_113 rfl rfl ?_
  refine z_bipush b dX9_init_114 (by decide) ?_
  refine p_newa (N := 6) (len := 10) [(12, fun _ => 0), (144, fun _ => 0), (144, fun _ => 0), (144, fun _ => 0), (1000, fun _ => 0), (12, fun _ => 0), (13, fun _ => 0), (13, fun _ => 0), (13, fun _ => 0), (13, fun _ => 0), (6, fun _ => 0)] rfl b dX9_init_116 rfl rfl (by omega) (by omega) (by omega) ?_
  refine w_dup b dX9_init_118 rfl ?_
  refine z_iconst b dX9_init_119 ?_
  refine z_bipush b dX9_init_120 (by decide) ?_
  refine p_ast (n := 6) (f := fun _ => 0) (p := 10) [(12, fun _ => 0), (144, fun _ => 0), (144, fun _ => 0), (144, fun _ => 0), (1000, fun _ => 0), (12, fun _ => 0), (13, fun _ => 0), (13, fun _ => 0), (13, fun _ => 0), (13, fun _ => 0), (6, fu (fun _ => 0) 0 8)] rfl b dX9_init_122 rfl (by omega) ?_
  refine w_dup b dX9_init_123 rfl ?_
  refine z_iconst b dX9_init_124 ?_
  refine z_bipush b dX9_init_125 (by decide) ?_
  refine p_ast (n := 6) (f := fu (fun _ => 0) 0 8) (p := 10) [(12, fun _ => 0), (144, fun _ => 0), (144, fun _ => 0), (144, fun _ => 0), (1000, fun _ => 0), (12, fun _ => 0), (13, fun _ => 0), (13, fun _ => 0), (13, fun _ => 0), (13, fun _ => 0), (6, fu (fu (fun _ => 0) 0 8) 1 8)] rfl b dX9_init_127 rfl (by omega) ?_
  refine w_dup b dX9_init_128 rfl ?_
  refine z_iconst b dX9_init_129 ?_
  refine z_bipush b dX9_init_130 (by decide) ?_
  refine p_ast (n := 6) (f := fu (fu (fun _ => 0) 0 8) 1 8) (p := 10) [(12, fun _ => 0), (144, fun _ => 0), (144, fun _ => 0), (144, fun _ => 0), (1000, fun _ => 0), (12, fun _ => 0), (13, fun _ => 0), (13, fun _ => 0), (13, fun _ => 0), (13, fun _ => 0), (6, fu (fu (fu (fun _ => 0) 0 8) 1 8) 2 8)] rfl b dX9_init_132 rfl (by omega) ?_
  refine w_dup b dX9_init_133 rfl ?_
  refine z_iconst b dX9_init_134 ?_
  refine z_bipush b dX9_init_135 (by decide) ?_
  refine p_ast (n := 6) (f := fu (fu (fu (fun _ => 0) 0 8) 1 8) 2 8) (p := 10) [(12, fun _ => 0), (144, fun _ => 0), (144, fun _ => 0), (144, fun _ => 0), (1000, fun _ => 0), (12, fun _ => 0), (13, fun _ => 0), (13, fun _ => 0), (13, fun _ => 0), (13, fun _ => 0), (6, fu (fu (fu (fu (fun _ => 0) 0 8) 1 8) 2 8) 3 8)] rfl b dX9_init_137 rfl (by omega) ?_
  refine w_dup b dX9_init_138 rfl ?_
  refine z_iconst b dX9_init_139 ?_
  refine z_bipush b dX9_init_140 (by decide) ?_
  refine p_ast (n := 6) (f := fu (fu (fu (fu (fun _ => 0) 0 8) 1 8) 2 8) 3 8) (p := 10) [(12, fun _ => 0), (144, fun _ => 0), (144, fun _ => 0), (144, fun _ => 0), (1000, fun _ => 0), (12, fun _ => 0), (13, fun _ => 0), (13, fun _ => 0), (13, fun _ => 0), (13, fun _ => 0), (6, fu (fu (fu (fu (fu (fun _ => 0) 0 8) 1 8) 2 8) 3 8) 4 8)] rfl b dX9_init_142 rfl (by omega) ?_
  refine w_dup b dX9_init_143 rfl ?_
  refine z_iconst b dX9_init_144 ?_
  refine z_bipush b dX9_init_145 (by decide) ?_
  refine p_ast (n := 6) (f := fu (fu (fu (fu (fu (fun _ => 0) 0 8) 1 8) 2 8) 3 8) 4 8) (p := 10) [(12, fun _ => 0), (144, fun _ => 0), (144, fun _ => 0), (144, fun _ => 0), (1000, fun _ => 0), (12, fun _ => 0), (13, fun _ => 0), (13, fun _ => 0), (13, fun _ => 0), (13, fun _ => 0), (6, fu (fu (fu (fu (fu (fu (fun _ => 0) 0 8) 1 8) 2 8) 3 8) 4 8) 5 8)] rfl b dX9_init_147 rfl (by omega) ?_
  refine p_put [.int (iI 0), .int 0, .int (iI 0), .ref (mo + 1 + 0), .ref (mo + 1 + 1), .ref (mo + 1 + 2), .ref (mo + 1 + 3), .ref (mo + 1 + 4), .ref (mo + 1 + 5), .ref (mo + 1 + 6), .ref (mo + 1 + 7), .ref (mo + 1 + 8), .ref (mo + 1 + 9), .int (iI 0), .int (iI 0), .int (iI 0), .ref (mo + 1 + 10), .null, .null, .null, .null, .int 0, .null, .null, .null, .null, .null, .int 0, .int 0, .int 0, .null, .null, .null, .null, .null, .null, .null, .null, .null, .null, .null, .null] rfl b dX9_init_148 lfX9_56 gtX9_16 (fun _ => rfl) (tlt rfl) rfl rfl ?_
  refine w_aload_n b dX9_init_151 rfl rfl ?_
  refine z_bipush b dX9_init_152 (by decide) ?_
  refine p_newa (N := 6) (len := 11) [(12, fun _ => 0), (144, fun _ => 0), (144, fun _ => 0), (144, fun _ => 0), (1000, fun _ => 0), (12, fun _ => 0), (13, fun _ => 0), (13, fun _ => 0), (13, fun _ => 0), (13, fun _ => 0), (6, fu (fu (fu (fu (fu (fu (fun _ => 0) 0 8) 1 8) 2 8) 3 8) 4 8) 5 8), (6, fun _ => 0)] rfl b dX9_init_154 rfl rfl (by omega) (by omega) (by omega) ?_
  refine w_dup b dX9_init_156 rfl ?_
  refine z_iconst b dX9_init_157 ?_
  refine z_iconst b dX9_init_158 ?_
  refine p_ast (n := 6) (f := fun _ => 0) (p := 11) [(12, fun _ => 0), (144, fun _ => 0), (144, fun _ => 0), (144, fun _ => 0), (1000, fun _ => 0), (12, fun _ => 0), (13, fun _ => 0), (13, fun _ => 0), (13, fun _ => 0), (13, fun _ => 0), (6, fu (fu (fu (fu (fu (fu (fun _ => 0) 0 8) 1 8) 2 8) 3 8) 4 8) 5 8), (6, fu (fun _ => 0) 0 5)] rfl b dX9_init_159 rfl (by omega) ?_
  refine w_dup b dX9_init_160 rfl ?_
  refine z_iconst b dX9_init_161 ?_
  refine z_iconst b dX9_init_162 ?_
  refine p_ast (n := 6) (f := fu (fun _ => 0) 0 5) (p := 11) [(12, fun _ => 0), (144, fun _ => 0), (144, fun _ => 0), (144, fun _ => 0), (1000, fun _ => 0), (12, fun _ => 0), (13, fun _ => 0), (13, fun _ => 0), (13, fun _ => 0), (13, fun _ => 0), (6, fu (fu (fu (fu (fu (fu (fun _ => 0) 0 8) 1 8) 2 8) 3 8) 4 8) 5 8), (6, fu (fu (fun _ => 0) 0 5) 1 5)] rfl b dX9_init_163 rfl (by omega) ?_
  refine w_dup b dX9_init_164 rfl ?_
  refine z_iconst b dX9_init_165 ?_
  refine z_iconst b dX9_init_166 ?_
  refine p_ast (n := 6) (f := fu (fu (fun _ => 0) 0 5) 1 5) (p := 11) [(12, fun _ => 0), (144, fun _ => 0), (144, fun _ => 0), (144, fun _ => 0), (1000, fun _ => 0), (12, fun _ => 0), (13, fun _ => 0), (13, fun _ => 0), (13, fun _ => 0), (13, fun _ => 0), (6, fu (fu (fu (fu (fu (fu (fun _ => 0) 0 8) 1 8) 2 8) 3 8) 4 8) 5 8), (6, fu (fu (fu (fun _ => 0) 0 5) 1 5) 2 5)] rfl b dX9_init_167 rfl (by omega) ?_
  refine w_dup b dX9_init_168 rfl ?_
  refine z_iconst b dX9_init_169 ?_
  refine z_iconst b dX9_init_170 ?_
  refine p_ast (n := 6) (f := fu (fu (fu (fun _ => 0) 0 5) 1 5) 2 5) (p := 11) [(12, fun _ => 0), (144, fun _ => 0), (144, fun _ => 0), (144, fun _ => 0), (1000, fun _ => 0), (12, fun _ => 0), (13, fun _ => 0), (13, fun _ => 0), (13, fun _ => 0), (13, fun _ => 0), (6, fu (fu (fu (fu (fu (fu (fun _ => 0) 0 8) 1 8) 2 8) 3 8) 4 8) 5 8), (6, fu (fu (fu (fu (fun _ => 0) 0 5) 1 5) 2 5) 3 5)] rfl b dX9_init_171 rfl (by omega) ?_
  refine w_dup b dX9_init_172 rfl ?_
  refine z_iconst b dX9_init_173 ?_
  refine z_iconst b dX9_init_174 ?_
  refine p_ast (n := 6) (f := fu (fu (fu (fu (fun _ => 0) 0 5) 1 5) 2 5) 3 5) (p := 11) [(12, fun _ => 0), (144, fun _ => 0), (144, fun _ => 0), (144, fun _ => 0), (1000, fun _ => 0), (12, fun _ => 0), (13, fun _ => 0), (13, fun _ => 0), (13, fun _ => 0), (13, fun _ => 0), (6, fu (fu (fu (fu (fu (fu (fun _ => 0) 0 8) 1 8) 2 8) 3 8) 4 8) 5 8), (6, fu (fu (fu (fu (fu (fun _ => 0) 0 5) 1 5) 2 5) 3 5) 4 5)] rfl b dX9_init_175 rfl (by omega) ?_
  refine w_dup b dX9_init_176 rfl ?_
  refine z_iconst b dX9_init_177 ?_
  refine z_iconst b dX9_init_178 ?_
  refine p_ast (n := 6) (f := fu (fu (fu (fu (fu (fun _ => 0) 0 5) 1 5) 2 5) 3 5) 4 5) (p := 11) [(12, fun _ => 0), (144, fun _ => 0), (144, fun _ => 0), (144, fun _ => 0), (1000, fun _ => 0), (12, fun _ => 0), (13, fun _ => 0), (13, fun _ => 0), (13, fun _ => 0), (13, fun _ => 0), (6, fu (fu (fu (fu (fu (fu (fun _ => 0) 0 8) 1 8) 2 8) 3 8) 4 8) 5 8), (6, fu (fu (fu (fu (fu (fu (fun _ => 0) 0 5) 1 5) 2 5) 3 5) 4 5) 5 5)] rfl b dX9_init_179 rfl (by omega) ?_
  refine p_put [.int (iI 0), .int 0, .int (iI 0), .ref (mo + 1 + 0), .ref (mo + 1 + 1), .ref (mo + 1 + 2), .ref (mo + 1 + 3), .ref (mo + 1 + 4), .ref (mo + 1 + 5), .ref (mo + 1 + 6), .ref (mo + 1 + 7), .ref (mo + 1 + 8), .ref (mo + 1 + 9), .int (iI 0), .int (iI 0), .int (iI 0), .ref (mo + 1 + 10), .ref (mo + 1 + 11), .null, .null, .null, .int 0, .null, .null, .null, .null, .null, .int 0, .int 0, .int 0, .null, .null, .null, .null, .null, .null, .null, .null, .null, .null, .null, .null] rfl b dX9_init_180 lfX9_59 gtX9_17 (fun _ => rfl) (tlt rfl) rfl rfl ?_
  refine w_aload_n b dX9_init_183 rfl rfl ?_
  refine z_bipush b dX9_init_184 (by decide) ?_
  refine p_newa (N := 8) (len := 12) [(12, fun _ => 0), (144, fun _ => 0), (144, fun _ => 0), (144, fun _ => 0), (1000, fun _ => 0), (12, fun _ => 0), (13, fun _ => 0), (13, fun _ => 0), (13, fun _ => 0), (13, fun _ => 0), (6, fu (fu (fu (fu (fu (fu (fun _ => 0) 0 8) 1 8) 2 8) 3 8) 4 8) 5 8), (6, fu (fu (fu (fu (fu (fu (fun _ => 0) 0 5) 1 5) 2 5) 3 5) 4 5) 5 5), (8, fun _ => 0)] rfl b dX9_init_186 rfl rfl (by omega) (by omega) (by omega) ?_
  refine p_put [.int (iI 0), .int 0, .int (iI 0), .ref (mo + 1 + 0), .ref (mo + 1 + 1), .ref (mo + 1 + 2), .ref (mo + 1 + 3), .ref (mo + 1 + 4), .ref (mo + 1 + 5), .ref (mo + 1 + 6), .ref (mo + 1 + 7), .ref (mo + 1 + 8), .ref (mo + 1 + 9), .int (iI 0), .int (iI 0), .int (iI 0), .ref (mo + 1 + 10), .ref (mo + 1 + 11), .ref (mo + 1 + 12), .null, .null, .int 0, .null, .null, .null, .null, .null, .int 0, .int 0, .int 0, .null, .null, .null, .null, .null, .null, .null, .null, .null, .null, .null, .null] rfl b dX9_init_188 lfX9_62 gtX9_18 (fun _ => rfl) (tlt rfl) rfl rfl ?_
  refine w_aload_n b dX9_init_191 rfl rfl ?_
  refine z_bipush b dX9_init_192 (by decide) ?_
  refine p_newa (N := 80) (len := 13) [(12, fun _ => 0), (144, fun _ => 0), (144, fun _ => 0), (144, fun _ => 0), (1000, fun _ => 0), (12, fun _ => 0), (13, fun _ => 0), (13, fun _ => 0), (13, fun _ => 0), (13, fun _ => 0), (6, fu (fu (fu (fu (fu (fu (fun _ => 0) 0 8) 1 8) 2 8) 3 8) 4 8) 5 8), (6, fu (fu (fu (fu (fu (fu (fun _ => 0) 0 5) 1 5) 2 5) 3 5) 4 5) 5 5), (8, fun _ => 0), (80, fun _ => 0)] rfl b dX9_init_194 rfl rfl (by omega) (by omega) (by omega) ?_
  refine p_put [.int (iI 0), .int 0, .int (iI 0), .ref (mo + 1 + 0), .ref (mo + 1 + 1), .ref (mo + 1 + 2), .ref (mo + 1 + 3), .ref (mo + 1 + 4), .ref (mo + 1 + 5), .ref (mo + 1 + 6), .ref (mo + 1 + 7), .ref (mo + 1 + 8), .ref (mo + 1 + 9), .int (iI 0), .int (iI 0), .int (iI 0), .ref (mo + 1 + 10), .ref (mo + 1 + 11), .ref (mo + 1 + 12), .ref (mo + 1 + 13), .null, .int 0, .null, .null, .null, .null, .null, .int 0, .int 0, .int 0, .null, .null, .null, .null, .null, .null, .null, .null, .null, .null, .null, .null] rfl b dX9_init_196 lfX9_65 gtX9_19 (fun _ => rfl) (tlt rfl) rfl rfl ?_
  refine w_aload_n b dX9_init_199 rfl rfl ?_
  refine z_bipush b dX9_init_200 (by decide) ?_
  refine p_newa (N := 80) (len := 14) [(12, fun _ => 0), (144, fun _ => 0), (144, fun _ => 0), (144, fun _ => 0), (1000, fun _ => 0), (12, fun _ => 0), (13, fun _ => 0), (13, fun _ => 0), (13, fun _ => 0), (13, fun _ => 0), (6, fu (fu (fu (fu (fu (fu (fun _ => 0) 0 8) 1 8) 2 8) 3 8) 4 8) 5 8), (6, fu (fu (fu (fu (fu (fu (fun _ => 0) 0 5) 1 5) 2 5) 3 5) 4 5) 5 5), (8, fun _ => 0), (80, fun _ => 0), (80, fun _ => 0)] rfl b dX9_init_202 rfl rfl (by omega) (by omega) (by omega) ?_
  refine p_put [.int (iI 0), .int 0, .int (iI 0), .ref (mo + 1 + 0), .ref (mo + 1 + 1), .ref (mo + 1 + 2), .ref (mo + 1 + 3), .ref (mo + 1 + 4), .ref (mo + 1 + 5), .ref (mo + 1 + 6), .ref (mo + 1 + 7), .ref (mo + 1 + 8), .ref (mo + 1 + 9), .int (iI 0), .int (iI 0), .int (iI 0), .ref (mo + 1 + 10), .ref (mo + 1 + 11), .ref (mo + 1 + 12), .ref (mo + 1 + 13), .ref (mo + 1 + 14), .int 0, .null, .null, .null, .null, .null, .int 0, .int 0, .int 0, .null, .null, .null, .null, .null, .null, .null, .null, .null, .null, .null, .null] rfl b dX9_init_204 lfX9_68 gtX9_20 (fun _ => rfl) (tlt rfl) rfl rfl ?_
  refine w_aload_n b dX9_init_207 rfl rfl ?_
  refine z_iconst b dX9_init_208 ?_
  refine p_put [.int (iI 0), .int 0, .int (iI 0), .ref (mo + 1 + 0), .ref (mo + 1 + 1), .ref (mo + 1 + 2), .ref (mo + 1 + 3), .ref (mo + 1 + 4), .ref (mo + 1 + 5), .ref (mo + 1 + 6), .ref (mo + 1 + 7), .ref (mo + 1 + 8), .ref (mo + 1 + 9), .int (iI 0), .int (iI 0), .int (iI 0), .ref (mo + 1 + 10), .ref (mo + 1 + 11), .ref (mo + 1 + 12), .ref (mo + 1 + 13), .ref (mo + 1 + 14), .int (iI 0), .null, .null, .null, .null, .null, .int 0, .int 0, .int 0, .null, .null, .null, .null, .null, .null, .null, .null, .null, .null, .null, .null] rfl b dX9_init_209 lfX9_71 gtX9_21 (fun z => by cases z) (tlt rfl) rfl rfl ?_
  refine w_aload_n b dX9_init_212 rfl rfl ?_
  refine z_sipush b dX9_init_213 (by decide) ?_
  refine p_newa (N := 1600) (len := 15) [(12, fun _ => 0), (144, fun _ => 0), (144, fun _ => 0), (144, fun _ => 0), (1000, fun _ => 0), (12, fun _ => 0), (13, fun _ => 0), (13, fun _ => 0), (13, fun _ => 0), (13, fun _ => 0), (6, fu (fu (fu (fu (fu (fu (fun _ => 0) 0 8) 1 8) 2 8) 3 8) 4 8) 5 8), (6, fu (fu (fu (fu (fu (fu (fun _ => 0) 0 5) 1 5) 2 5) 3 5) 4 5) 5 5), (8, fun _ => 0), (80, fun _ => 0), (80, fun _ => 0), (1600, fun _ => 0)] rfl b dX9_init_216 rfl rfl (by omega) (by omega) (by omega) ?_
  refine p_put [.int (iI 0), .int 0, .int (iI 0), .ref (mo + 1 + 0), .ref (mo + 1 + 1), .ref (mo + 1 + 2), .ref (mo + 1 + 3), .ref (mo + 1 + 4), .ref (mo + 1 + 5), .ref (mo + 1 + 6), .ref (mo + 1 + 7), .ref (mo + 1 + 8), .ref (mo + 1 + 9), .int (iI 0), .int (iI 0), .int (iI 0), .ref (mo + 1 + 10), .ref (mo + 1 + 11), .ref (mo + 1 + 12), .ref (mo + 1 + 13), .ref (mo + 1 + 14), .int (iI 0), .ref (mo + 1 + 15), .null, .null, .null, .null, .int 0, .int 0, .int 0, .null, .null, .null, .null, .null, .null, .null, .null, .null, .null, .null, .null] rfl b dX9_init_218 lfX9_74 gtX9_22 (fun _ => rfl) (tlt rfl) rfl rfl ?_
  refine w_aload_n b dX9_init_221 rfl rfl ?_
  refine z_sipush b dX9_init_222 (by decide) ?_
  refine p_newa (N := 1600) (len := 16) [(12, fun _ => 0), (144, fun _ => 0), (144, fun _ => 0), (144, fun _ => 0), (1000, fun _ => 0), (12, fun _ => 0), (13, fun _ => 0), (13, fun _ => 0), (13, fun _ => 0), (13, fun _ => 0), (6, fu (fu (fu (fu (fu (fu (fun _ => 0) 0 8) 1 8) 2 8) 3 8) 4 8) 5 8), (6, fu (fu (fu (fu (fu (fu (fun _ => 0) 0 5) 1 5) 2 5) 3 5) 4 5) 5 5), (8, fun _ => 0), (80, fun _ => 0), (80, fun _ => 0), (1600, fun _ => 0), (1600, fun _ => 0)] rfl b dX9_init_225 rfl rfl (by omega) (by omega) (by omega) ?_
  refine p_put [.int (iI 0), .int 0, .int (iI 0), .ref (mo + 1 + 0), .ref (mo + 1 + 1), .ref (mo + 1 + 2), .ref (mo + 1 + 3), .ref (mo + 1 + 4), .ref (mo + 1 + 5), .ref (mo + 1 + 6), .ref (mo + 1 + 7), .ref (mo + 1 + 8), .ref (mo + 1 + 9), .int (iI 0), .int (iI 0), .int (iI 0), .ref (mo + 1 + 10), .ref (mo + 1 + 11), .ref (mo + 1 + 12), .ref (mo + 1 + 13), .ref (mo + 1 + 14), .int (iI 0), .ref (mo + 1 + 15), .ref (mo + 1 + 16), .null, .null, .null, .int 0, .int 0, .int 0, .null, .null, .null, .null, .null, .null, .null, .null, .null, .null, .null, .null] rfl b dX9_init_227 lfX9_77 gtX9_23 (fun _ => rfl) (tlt rfl) rfl rfl ?_
  refine w_aload_n b dX9_init_230 rfl rfl ?_
  refine z_sipush b dX9_init_231 (by decide) ?_
  refine p_newa (N := 1600) (len := 17) [(12, fun _ => 0), (144, fun _ => 0), (144, fun _ => 0), (144, fun _ => 0), (1000, fun _ => 0), (12, fun _ => 0), (13, fun _ => 0), (13, fun _ => 0), (13, fun _ => 0), (13, fun _ => 0), (6, fu (fu (fu (fu (fu (fu (fun _ => 0) 0 8) 1 8) 2 8) 3 8) 4 8) 5 8), (6, fu (fu (fu (fu (fu (fu (fun _ => 0) 0 5) 1 5) 2 5) 3 5) 4 5) 5 5), (8, fun _ => 0), (80, fun _ => 0), (80, fun _ => 0), (1600, fun _ => 0), (1600, fun _ => 0), (1600, fun _ => 0)] rfl b dX9_init_234 rfl rfl (by omega) (by omega) (by omega) ?_
  refine p_put [.int (iI 0), .int 0, .int (iI 0), .ref (mo + 1 + 0), .ref (mo + 1 + 1), .ref (mo + 1 + 2), .ref (mo + 1 + 3), .ref (mo + 1 + 4), .ref (mo + 1 + 5), .ref (mo + 1 + 6), .ref (mo + 1 + 7), .ref (mo + 1 + 8), .ref (mo + 1 + 9), .int (iI 0), .int (iI 0), .int (iI 0), .ref (mo + 1 + 10), .ref (mo + 1 + 11), .ref (mo + 1 + 12), .ref (mo + 1 + 13), .ref (mo + 1 + 14), .int (iI 0), .ref (mo + 1 + 15), .ref (mo + 1 + 16), .ref (mo + 1 + 17), .null, .null, .int 0, .int 0, .int 0, .null, .null, .null, .null, .null, .null, .null, .null, .null, .null, .null, .null] rfl b dX9_init_236 lfX9_80 gtX9_24 (fun _ => rfl) (tlt rfl) rfl rfl ?_
  refine w_aload_n b dX9_init_239 rfl rfl ?_
  refine z_sipush b dX9_init_240 (by decide) ?_
  refine p_newa (N := 1600) (len := 18) [(12, fun _ => 0), (144, fun _ => 0), (144, fun _ => 0), (144, fun _ => 0), (1000, fun _ => 0), (12, fun _ => 0), (13, fun _ => 0), (13, fun _ => 0), (13, fun _ => 0), (13, fun _ => 0), (6, fu (fu (fu (fu (fu (fu (fun _ => 0) 0 8) 1 8) 2 8) 3 8) 4 8) 5 8), (6, fu (fu (fu (fu (fu (fu (fun _ => 0) 0 5) 1 5) 2 5) 3 5) 4 5) 5 5), (8, fun _ => 0), (80, fun _ => 0), (80, fun _ => 0), (1600, fun _ => 0), (1600, fun _ => 0), (1600, fun _ => 0), (1600, fun _ => 0)] rfl b dX9_init_243 rfl rfl (by omega) (by omega) (by omega) ?_
  refine p_put [.int (iI 0), .int 0, .int (iI 0), .ref (mo + 1 + 0), .ref (mo + 1 + 1), .ref (mo + 1 + 2), .ref (mo + 1 + 3), .ref (mo + 1 + 4), .ref (mo + 1 + 5), .ref (mo + 1 + 6), .ref (mo + 1 + 7), .ref (mo + 1 + 8), .ref (mo + 1 + 9), .int (iI 0), .int (iI 0), .int (iI 0), .ref (mo + 1 + 10), .ref (mo + 1 + 11), .ref (mo + 1 + 12), .ref (mo + 1 + 13), .ref (mo + 1 + 14), .int (iI 0), .ref (mo + 1 + 15), .ref (mo + 1 + 16), .ref (mo + 1 + 17), .ref (mo + 1 + 18), .null, .int 0, .int 0, .int 0, .null, .null, .null, .null, .null, .null, .null, .null, .null, .null, .null, .null] rfl b dX9_init_245 lfX9_83 gtX9_25 (fun _ => rfl) (tlt rfl) rfl rfl ?_
  refine w_aload_n b dX9_init_248 rfl rfl ?_
  refine z_bipush b dX9_init_249 (by decide) ?_
  refine p_newa (N := 40) (len := 19) [(12, fun _ => 0), (144, fun _ => 0), (144, fun _ => 0), (144, fun _ => 0), (1000, fun _ => 0), (12, fun _ => 0), (13, fun _ => 0), (13, fun _ => 0), (13, fun _ => 0), (13, fun _ => 0), (6, fu (fu (fu (fu (fu (fu (fun _ => 0) 0 8) 1 8) 2 8) 3 8) 4 8) 5 8), (6, fu (fu (fu (fu (fu (fu (fun _ => 0) 0 5) 1 5) 2 5) 3 5) 4 5) 5 5), (8, fun _ => 0), (80, fun _ => 0), (80, fun _ => 0), (1600, fun _ => 0), (1600, fun _ => 0), (1600, fun _ => 0), (1600, fun _ => 0), (40, fun _ => 0)] rfl b dX9_init_251 rfl rfl (by omega) (by omega) (by omega) ?_
  refine p_put [.int (iI 0), .int 0, .int (iI 0), .ref (mo + 1 + 0), .ref (mo + 1 + 1), .ref (mo + 1 + 2), .ref (mo + 1 + 3), .ref (mo + 1 + 4), .ref (mo + 1 + 5), .ref (mo + 1 + 6), .ref (mo + 1 + 7), .ref (mo + 1 + 8), .ref (mo + 1 + 9), .int (iI 0), .int (iI 0), .int (iI 0), .ref (mo + 1 + 10), .ref (mo + 1 + 11), .ref (mo + 1 + 12), .ref (mo + 1 + 13), .ref (mo + 1 + 14), .int (iI 0), .ref (mo + 1 + 15), .ref (mo + 1 + 16), .ref (mo + 1 + 17), .ref (mo + 1 + 18), .ref (mo + 1 + 19), .int 0, .int 0, .int 0, .null, .null, .null, .null, .null, .null, .null, .null, .null, .null, .null, .null] rfl b dX9_init_253 lfX9_86 gtX9_26 (fun _ => rfl) (tlt rfl) rfl rfl ?_
  refine w_aload_n b dX9_init_256 rfl rfl ?_
  refine z_iconst b dX9_init_257 ?_
  refine p_put [.int (iI 0), .int 0, .int (iI 0), .ref (mo + 1 + 0), .ref (mo + 1 + 1), .ref (mo + 1 + 2), .ref (mo + 1 + 3), .ref (mo + 1 + 4), .ref (mo + 1 + 5), .ref (mo + 1 + 6), .ref (mo + 1 + 7), .ref (mo + 1 + 8), .ref (mo + 1 + 9), .int (iI 0), .int (iI 0), .int (iI 0), .ref (mo + 1 + 10), .ref (mo + 1 + 11), .ref (mo + 1 + 12), .ref (mo + 1 + 13), .ref (mo + 1 + 14), .int (iI 0), .ref (mo + 1 + 15), .ref (mo + 1 + 16), .ref (mo + 1 + 17), .ref (mo + 1 + 18), .ref (mo + 1 + 19), .int (iI 0), .int 0, .int 0, .null, .null, .null, .null, .null, .null, .null, .null, .null, .null, .null, .null] rfl b dX9_init_258 lfX9_89 gtX9_27 (fun z => by cases z) (tlt rfl) rfl rfl ?_
  refine w_aload_n b dX9_init_261 rfl rfl ?_
  refine z_iconst b dX9_init_262 ?_
  refine p_put [.int (iI 0), .int 0, .int (iI 0), .ref (mo + 1 + 0), .ref (mo + 1 + 1), .ref (mo + 1 + 2), .ref (mo + 1 + 3), .ref (mo + 1 + 4), .ref (mo + 1 + 5), .ref (mo + 1 + 6), .ref (mo + 1 + 7), .ref (mo + 1 + 8), .ref (mo + 1 + 9), .int (iI 0), .int (iI 0), .int (iI 0), .ref (mo + 1 + 10), .ref (mo + 1 + 11), .ref (mo + 1 + 12), .ref (mo + 1 + 13), .ref (mo + 1 + 14), .int (iI 0), .ref (mo + 1 + 15), .ref (mo + 1 + 16), .ref (mo + 1 + 17), .ref (mo + 1 + 18), .ref (mo + 1 + 19), .int (iI 0), .int (iI 0), .int 0, .null, .null, .null, .null, .null, .null, .null, .null, .null, .null, .null, .null] rfl b dX9_init_263 lfX9_92 gtX9_28 (fun z => by cases z) (tlt rfl) rfl rfl ?_
  refine w_aload_n b dX9_init_266 rfl rfl ?_
  refine z_iconst b dX9_init_267 ?_
  refine p_put [.int (iI 0), .int 0, .int (iI 0), .ref (mo + 1 + 0), .ref (mo + 1 + 1), .ref (mo + 1 + 2), .ref (mo + 1 + 3), .ref (mo + 1 + 4), .ref (mo + 1 + 5), .ref (mo + 1 + 6), .ref (mo + 1 + 7), .ref (mo + 1 + 8), .ref (mo + 1 + 9), .int (iI 0), .int (iI 0), .int (iI 0), .ref (mo + 1 + 10), .ref (mo + 1 + 11), .ref (mo + 1 + 12), .ref (mo + 1 + 13), .ref (mo + 1 + 14), .int (iI 0), .ref (mo + 1 + 15), .ref (mo + 1 + 16), .ref (mo + 1 + 17), .ref (mo + 1 + 18), .ref (mo + 1 + 19), .int (iI 0), .int (iI 0), .int (iI 0), .null, .null, .null, .null, .null, .null, .null, .null, .null, .null, .null, .null] rfl b dX9_init_268 lfX9_95 gtX9_29 (fun z => by cases z) (tlt rfl) rfl rfl ?_
  refine w_aload_n b dX9_init_271 rfl rfl ?_
  refine z_bipush b dX9_init_272 (by decide) ?_
  refine p_newa (N := 8) (len := 20) [(12, fun _ => 0), (144, fun _ => 0), (144, fun _ => 0), (144, fun _ => 0), (1000, fun _ => 0), (12, fun _ => 0), (13, fun _ => 0), (13, fun _ => 0), (13, fun _ => 0), (13, fun _ => 0), (6, fu (fu (fu (fu (fu (fu (fun _ => 0) 0 8) 1 8) 2 8) 3 8) 4 8) 5 8), (6, fu (fu (fu (fu (fu (fu (fun _ => 0) 0 5) 1 5) 2 5) 3 5) 4 5) 5 5), (8, fun _ => 0), (80, fun _ => 0), (80, fun _ => 0), (1600, fun _ => 0), (1600, fun _ => 0), (1600, fun _ => 0), (1600, fun _ => 0), (40, fun _ => 0), (8, fun _ => 0)] rfl b dX9_init_274 rfl rfl (by omega) (by omega) (by omega) ?_
  refine p_put [.int (iI 0), .int 0, .int (iI 0), .ref (mo + 1 + 0), .ref (mo + 1 + 1), .ref (mo + 1 + 2), .ref (mo + 1 + 3), .ref (mo + 1 + 4), .ref (mo + 1 + 5), .ref (mo + 1 + 6), .ref (mo + 1 + 7), .ref (mo + 1 + 8), .ref (mo + 1 + 9), .int (iI 0), .int (iI 0), .int (iI 0), .ref (mo + 1 + 10), .ref (mo + 1 + 11), .ref (mo + 1 + 12), .ref (mo + 1 + 13), .ref (mo + 1 + 14), .int (iI 0), .ref (mo + 1 + 15), .ref (mo + 1 + 16), .ref (mo + 1 + 17), .ref (mo + 1 + 18), .ref (mo + 1 + 19), .int (iI 0), .int (iI 0), .int (iI 0), .ref (mo + 1 + 20), .null, .null, .null, .null, .null, .null, .null, .null, .null, .null, .null] rfl b dX9_init_276 lfX9_98 gtX9_30 (fun _ => rfl) (tlt rfl) rfl rfl ?_
  refine w_aload_n b dX9_init_279 rfl rfl ?_
  refine z_bipush b dX9_init_280 (by decide) ?_
  refine p_newa (N := 8) (len := 21) [(12, fun _ => 0), (144, fun _ => 0), (144, fun _ => 0), (144, fun _ => 0), (1000, fun _ => 0), (12, fun _ => 0), (13, fun _ => 0), (13, fun _ => 0), (13, fun _ => 0), (13, fun _ => 0), (6, fu (fu (fu (fu (fu (fu (fun _ => 0) 0 8) 1 8) 2 8) 3 8) 4 8) 5 8), (6, fu (fu (fu (fu (fu (fu (fun _ => 0) 0 5) 1 5) 2 5) 3 5) 4 5) 5 5), (8, fun _ => 0), (80, fun _ => 0), (80, fun _ => 0), (1600, fun _ => 0), (1600, fun _ => 0), (1600, fun _ => 0), (1600, fun _ => 0), (40, fun _ => 0), (8, fun _ => 0), (8, fun _ => 0)] rfl b dX9_init_282 rfl rfl (by omega) (by omega) (by omega) ?_
  refine p_put [.int (iI 0), .int 0, .int (iI 0), .ref (mo + 1 + 0), .ref (mo + 1 + 1), .ref (mo + 1 + 2), .ref (mo + 1 + 3), .ref (mo + 1 + 4), .ref (mo + 1 + 5), .ref (mo + 1 + 6), .ref (mo + 1 + 7), .ref (mo + 1 + 8), .ref (mo + 1 + 9), .int (iI 0), .int (iI 0), .int (iI 0), .ref (mo + 1 + 10), .ref (mo + 1 + 11), .ref (mo + 1 + 12), .ref (mo + 1 + 13), .ref (mo + 1 + 14), .int (iI 0), .ref (mo + 1 + 15), .ref (mo + 1 + 16), .ref (mo + 1 + 17), .ref (mo + 1 + 18), .ref (mo + 1 + 19), .int (iI 0), .int (iI 0), .int (iI 0), .ref (mo + 1 + 20), .ref (mo + 1 + 21), .null, .null, .null, .null, .null, .null, .null, .null, .null, .null] rfl b dX9_init_284 lfX9_101 gtX9_31 (fun _ => rfl) (tlt rfl) rfl rfl ?_
  refine w_aload_n b dX9_init_287 rfl rfl ?_
  refine z_bipush b dX9_init_288 (by decide) ?_
  refine p_newa (N := 7) (len := 22) [(12, fun _ => 0), (144, fun _ => 0), (144, fun _ => 0), (144, fun _ => 0), (1000, fun _ => 0), (12, fun _ => 0), (13, fun _ => 0), (13, fun _ => 0), (13, fun _ => 0), (13, fun _ => 0), (6, fu (fu (fu (fu (fu (fu (fun _ => 0) 0 8) 1 8) 2 8) 3 8) 4 8) 5 8), (6, fu (fu (fu (fu (fu (fu (fun _ => 0) 0 5) 1 5) 2 5) 3 5) 4 5) 5 5), (8, fun _ => 0), (80, fun _ => 0), (80, fun _ => 0), (1600, fun _ => 0), (1600, fun _ => 0), (1600, fun _ => 0), (1600, fun _ => 0), (40, fun _ => 0), (8, fun _ => 0), (8, fun _ => 0), (7, fun _ => 0)] rfl b dX9_init_290 rfl rfl (by omega) (by omega) (by omega) ?_
  refine p_put [.int (iI 0), .int 0, .int (iI 0), .ref (mo + 1 + 0), .ref (mo + 1 + 1), .ref (mo + 1 + 2), .ref (mo + 1 + 3), .ref (mo + 1 + 4), .ref (mo + 1 + 5), .ref (mo + 1 + 6), .ref (mo + 1 + 7), .ref (mo + 1 + 8), .ref (mo + 1 + 9), .int (iI 0), .int (iI 0), .int (iI 0), .ref (mo + 1 + 10), .ref (mo + 1 + 11), .ref (mo + 1 + 12), .ref (mo + 1 + 13), .ref (mo + 1 + 14), .int (iI 0), .ref (mo + 1 + 15), .ref (mo + 1 + 16), .ref (mo + 1 + 17), .ref (mo + 1 + 18), .ref (mo + 1 + 19), .int (iI 0), .int (iI 0), .int (iI 0), .ref (mo + 1 + 20), .ref (mo + 1 + 21), .ref (mo + 1 + 22), .null, .null, .null, .null, .null, .null, .null, .null, .null] rfl b dX9_init_292 lfX9_104 gtX9_32 (fun _ => rfl) (tlt rfl) rfl rfl ?_
  refine w_aload_n b dX9_init_295 rfl rfl ?_
  refine z_bipush b dX9_init_296 (by decide) ?_
  refine p_newa (N := 15) (len := 23) [(12, fun _ => 0), (144, fun _ => 0), (144, fun _ => 0), (144, fun _ => 0), (1000, fun _ => 0), (12, fun _ => 0), (13, fun _ => 0), (13, fun _ => 0), (13, fun _ => 0), (13, fun _ => 0), (6, fu (fu (fu (fu (fu (fu (fun _ => 0) 0 8) 1 8) 2 8) 3 8) 4 8) 5 8), (6, fu (fu (fu (fu (fu (fu (fun _ => 0) 0 5) 1 5) 2 5) 3 5) 4 5) 5 5), (8, fun _ => 0), (80, fun _ => 0), (80, fun _ => 0), (1600, fun _ => 0), (1600, fun _ => 0), (1600, fun _ => 0), (1600, fun _ => 0), (40, fun _ => 0), (8, fun _ => 0), (8, fun _ => 0), (7, fun _ => 0), (15, fun _ => 0)] rfl b dX9_init_298 rfl rfl (by omega) (by omega) (by omega) ?_
  refine p_put [.int (iI 0), .int 0, .int (iI 0), .ref (mo + 1 + 0), .ref (mo + 1 + 1), .ref (mo + 1 + 2), .ref (mo + 1 + 3), .ref (mo + 1 + 4), .ref (mo + 1 + 5), .ref (mo + 1 + 6), .ref (mo + 1 + 7), .ref (mo + 1 + 8), .ref (mo + 1 + 9), .int (iI 0), .int (iI 0), .int (iI 0), .ref (mo + 1 + 10), .ref (mo + 1 + 11), .ref (mo + 1 + 12), .ref (mo + 1 + 13), .ref (mo + 1 + 14), .int (iI 0), .ref (mo + 1 + 15), .ref (mo + 1 + 16), .ref (mo + 1 + 17), .ref (mo + 1 + 18), .ref (mo + 1 + 19), .int (iI 0), .int (iI 0), .int (iI 0), .ref (mo + 1 + 20), .ref (mo + 1 + 21), .ref (mo + 1 + 22), .ref (mo + 1 + 23), .null, .null, .null, .null, .null, .null, .null, .null] rfl b dX9_init_300 lfX9_107 gtX9_33 (fun _ => rfl) (tlt rfl) rfl rfl ?_
  refine w_aload_n b dX9_init_303 rfl rfl ?_
  refine z_bipush b dX9_init_304 (by decide) ?_
  refine p_newa (N := 15) (len := 24) [(12, fun _ => 0), (144, fun _ => 0), (144, fun _ => 0), (144, fun _ => 0), (1000, fun _ => 0), (12, fun _ => 0), (13, fun _ => 0), (13, fun _ => 0), (13, fun _ => 0), (13, fun _ => 0), (6, fu (fu (fu (fu (fu (fu (fun _ => 0) 0 8) 1 8) 2 8) 3 8) 4 8) 5 8), (6, fu (fu (fu (fu (fu (fu (fun _ => 0) 0 5) 1 5) 2 5) 3 5) 4 5) 5 5), (8, fun _ => 0), (80, fun _ => 0), (80, fun _ => 0), (1600, fun _ => 0), (1600, fun _ => 0), (1600, fun _ => 0), (1600, fun _ => 0), (40, fun _ => 0), (8, fun _ => 0), (8, fun _ => 0), (7, fun _ => 0), (15, fun _ => 0), (15, fun _ => 0)] rfl b dX9_init_306 rfl rfl (by omega) (by omega) (by omega) ?_
  refine p_put [.int (iI 0), .int 0, .int (iI 0), .ref (mo + 1 + 0), .ref (mo + 1 + 1), .ref (mo + 1 + 2), .ref (mo + 1 + 3), .ref (mo + 1 + 4), .ref (mo + 1 + 5), .ref (mo + 1 + 6), .ref (mo + 1 + 7), .ref (mo + 1 + 8), .ref (mo + 1 + 9), .int (iI 0), .int (iI 0), .int (iI 0), .ref (mo + 1 + 10), .ref (mo + 1 + 11), .ref (mo + 1 + 12), .ref (mo + 1 + 13), .ref (mo + 1 + 14), .int (iI 0), .ref (mo + 1 + 15), .ref (mo + 1 + 16), .ref (mo + 1 + 17), .ref (mo + 1 + 18), .ref (mo + 1 + 19), .int (iI 0), .int (iI 0), .int (iI 0), .ref (mo + 1 + 20), .ref (mo + 1 + 21), .ref (mo + 1 + 22), .ref (mo + 1 + 23), .ref (mo + 1 + 24), .null, .null, .null, .null, .null, .null, .null] rfl b dX9_init_308 lfX9_110 gtX9_34 (fun _ => rfl) (tlt rfl) rfl rfl ?_
  refine w_aload_n b dX9_init_311 rfl rfl ?_
  refine z_bipush b dX9_init_312 (by decide) ?_
  refine p_newa (N := 8) (len := 25) [(12, fun _ => 0), (144, fun _ => 0), (144, fun _ => 0), (144, fun _ => 0), (1000, fun _ => 0), (12, fun _ => 0), (13, fun _ => 0), (13, fun _ => 0), (13, fun _ => 0), (13, fun _ => 0), (6, fu (fu (fu (fu (fu (fu (fun _ => 0) 0 8) 1 8) 2 8) 3 8) 4 8) 5 8), (6, fu (fu (fu (fu (fu (fu (fun _ => 0) 0 5) 1 5) 2 5) 3 5) 4 5) 5 5), (8, fun _ => 0), (80, fun _ => 0), (80, fun _ => 0), (1600, fun _ => 0), (1600, fun _ => 0), (1600, fun _ => 0), (1600, fun _ => 0), (40, fun _ => 0), (8, fun _ => 0), (8, fun _ => 0), (7, fun _ => 0), (15, fun _ => 0), (15, fun _ => 0), (8, fun _ => 0)] rfl b dX9_init_314 rfl rfl (by omega) (by omega) (by omega) ?_
  refine p_put [.int (iI 0), .int 0, .int (iI 0), .ref (mo + 1 + 0), .ref (mo + 1 + 1), .ref (mo + 1 + 2), .ref (mo + 1 + 3), .ref (mo + 1 + 4), .ref (mo + 1 + 5), .ref (mo + 1 + 6), .ref (mo + 1 + 7), .ref (mo + 1 + 8), .ref (mo + 1 + 9), .int (iI 0), .int (iI 0), .int (iI 0), .ref (mo + 1 + 10), .ref (mo + 1 + 11), .ref (mo + 1 + 12), .ref (mo + 1 + 13), .ref (mo + 1 + 14), .int (iI 0), .ref (mo + 1 + 15), .ref (mo + 1 + 16), .ref (mo + 1 + 17), .ref (mo + 1 + 18), .ref (mo + 1 + 19), .int (iI 0), .int (iI 0), .int (iI 0), .ref (mo + 1 + 20), .ref (mo + 1 + 21), .ref (mo + 1 + 22), .ref (mo + 1 + 23), .ref (mo + 1 + 24), .ref (mo + 1 + 25), .null, .null, .null, .null, .null, .null] rfl b dX9_init_316 lfX9_113 gtX9_35 (fun _ => rfl) (tlt rfl) rfl rfl ?_
  refine w_aload_n b dX9_init_319 rfl rfl ?_
  refine z_bipush b dX9_init_320 (by decide) ?_
  refine p_newa (N := 8) (len := 26) [(12, fun _ => 0), (144, fun _ => 0), (144, fun _ => 0), (144, fun _ => 0), (1000, fun _ => 0), (12, fun _ => 0), (13, fun _ => 0), (13, fun _ => 0), (13, fun _ => 0), (13, fun _ => 0), (6, fu (fu (fu (fu (fu (fu (fun _ => 0) 0 8) 1 8) 2 8) 3 8) 4 8) 5 8), (6, fu (fu (fu (fu (fu (fu (fun _ => 0) 0 5) 1 5) 2 5) 3 5) 4 5) 5 5), (8, fun _ => 0), (80, fun _ => 0), (80, fun _ => 0), (1600, fun _ => 0), (1600, fun _ => 0), (1600, fun _ => 0), (1600, fun _ => 0), (40, fun _ => 0), (8, fun _ => 0), (8, fun _ => 0), (7, fun _ => 0), (15, fun _ => 0), (15, fun _ => 0), (8, fun _ => 0), (8, fun _ => 0)] rfl b dX9_init_322 rfl rfl (by omega) (by omega) (by omega) ?_
  refine p_put [.int (iI 0), .int 0, .int (iI 0), .ref (mo + 1 + 0), .ref (mo + 1 + 1), .ref (mo + 1 + 2), .ref (mo + 1 + 3), .ref (mo + 1 + 4), .ref (mo + 1 + 5), .ref (mo + 1 + 6), .ref (mo + 1 + 7), .ref (mo + 1 + 8), .ref (mo + 1 + 9), .int (iI 0), .int (iI 0), .int (iI 0), .ref (mo + 1 + 10), .ref (mo + 1 + 11), .ref (mo + 1 + 12), .ref (mo + 1 + 13), .ref (mo + 1 + 14), .int (iI 0), .ref (mo + 1 + 15), .ref (mo + 1 + 16), .ref (mo + 1 + 17), .ref (mo + 1 + 18), .ref (mo + 1 + 19), .int (iI 0), .int (iI 0), .int (iI 0), .ref (mo + 1 + 20), .ref (mo + 1 + 21), .ref (mo + 1 + 22), .ref (mo + 1 + 23), .ref (mo + 1 + 24), .ref (mo + 1 + 25), .ref (mo + 1 + 26), .null, .null, .null, .null, .null] rfl b dX9_init_324 lfX9_116 gtX9_36 (fun _ => rfl) (tlt rfl) rfl rfl ?_
  refine w_aload_n b dX9_init_327 rfl rfl ?_
  refine z_bipush b dX9_init_328 (by decide) ?_
  refine p_newa (N := 8) (len := 27) [(12, fun _ => 0), (144, fun _ => 0), (144, fun _ => 0), (144, fun _ => 0), (1000, fun _ => 0), (12, fun _ => 0), (13, fun _ => 0), (13, fun _ => 0), (13, fun _ => 0), (13, fun _ => 0), (6, fu (fu (fu (fu (fu (fu (fun _ => 0) 0 8) 1 8) 2 8) 3 8) 4 8) 5 8), (6, fu (fu (fu (fu (fu (fu (fun _ => 0) 0 5) 1 5) 2 5) 3 5) 4 5) 5 5), (8, fun _ => 0), (80, fun _ => 0), (80, fun _ => 0), (1600, fun _ => 0), (1600, fun _ => 0), (1600, fun _ => 0), (1600, fun _ => 0), (40, fun _ => 0), (8, fun _ => 0), (8, fun _ => 0), (7, fun _ => 0), (15, fun _ => 0), (15, fun _ => 0), (8, fun _ => 0), (8, fun _ => 0), (8, fun _ => 0)] rfl b dX9_init_330 rfl rfl (by omega) (by omega) (by omega) ?_
  refine p_put [.int (iI 0), .int 0, .int (iI 0), .ref (mo + 1 + 0), .ref (mo + 1 + 1), .ref (mo + 1 + 2), .ref (mo + 1 + 3), .ref (mo + 1 + 4), .ref (mo + 1 + 5), .ref (mo + 1 + 6), .ref (mo + 1 + 7), .ref (mo + 1 + 8), .ref (mo + 1 + 9), .int (iI 0), .int (iI 0), .int (iI 0), .ref (mo + 1 + 10), .ref (mo + 1 + 11), .ref (mo + 1 + 12), .ref (mo + 1 + 13), .ref (mo + 1 + 14), .int (iI 0), .ref (mo + 1 + 15), .ref (mo + 1 + 16), .ref (mo + 1 + 17), .ref (mo + 1 + 18), .ref (mo + 1 + 19), .int (iI 0), .int (iI 0), .int (iI 0), .ref (mo + 1 + 20), .ref (mo + 1 + 21), .ref (mo + 1 + 22), .ref (mo + 1 + 23), .ref (mo + 1 + 24), .ref (mo + 1 + 25), .ref (mo + 1 + 26), .ref (mo + 1 + 27), .null, .null, .null, .null] rfl b dX9_init_332 lfX9_119 gtX9_37 (fun _ => rfl) (tlt rfl) rfl rfl ?_
  refine w_aload_n b dX9_init_335 rfl rfl ?_
  refine z_bipush b dX9_init_336 (by decide) ?_
  refine p_newa (N := 8) (len := 28) [(12, fun _ => 0), (144, fun _ => 0), (144, fun _ => 0), (144, fun _ => 0), (1000, fun _ => 0), (12, fun _ => 0), (13, fun _ => 0), (13, fun _ => 0), (13, fun _ => 0), (13, fun _ => 0), (6, fu (fu (fu (fu (fu (fu (fun _ => 0) 0 8) 1 8) 2 8) 3 8) 4 8) 5 8), (6, fu (fu (fu (fu (fu (fu (fun _ => 0) 0 5) 1 5) 2 5) 3 5) 4 5) 5 5), (8, fun _ => 0), (80, fun _ => 0), (80, fun _ => 0), (1600, fun _ => 0), (1600, fun _ => 0), (1600, fun _ => 0), (1600, fun _ => 0), (40, fun _ => 0), (8, fun _ => 0), (8, fun _ => 0), (7, fun _ => 0), (15, fun _ => 0), (15, fun _ => 0), (8, fun _ => 0), (8, fun _ => 0), (8, fun _ => 0), (8, fun _ => 0)] rfl b dX9_init_338 rfl rfl (by omega) (by omega) (by omega) ?_
  refine p_put [.int (iI 0), .int 0, .int (iI 0), .ref (mo + 1 + 0), .ref (mo + 1 + 1), .ref (mo + 1 + 2), .ref (mo + 1 + 3), .ref (mo + 1 + 4), .ref (mo + 1 + 5), .ref (mo + 1 + 6), .ref (mo + 1 + 7), .ref (mo + 1 + 8), .ref (mo + 1 + 9), .int (iI 0), .int (iI 0), .int (iI 0), .ref (mo + 1 + 10), .ref (mo + 1 + 11), .ref (mo + 1 + 12), .ref (mo + 1 + 13), .ref (mo + 1 + 14), .int (iI 0), .ref (mo + 1 + 15), .ref (mo + 1 + 16), .ref (mo + 1 + 17), .ref (mo + 1 + 18), .ref (mo + 1 + 19), .int (iI 0), .int (iI 0), .int (iI 0), .ref (mo + 1 + 20), .ref (mo + 1 + 21), .ref (mo + 1 + 22), .ref (mo + 1 + 23), .ref (mo + 1 + 24), .ref (mo + 1 + 25), .ref (mo + 1 + 26), .ref (mo + 1 + 27), .ref (mo + 1 + 28), .null, .null, .null] rfl b dX9_init_340 lfX9_122 gtX9_38 (fun _ => rfl) (tlt rfl) rfl rfl ?_
  refine w_aload_n b dX9_init_343 rfl rfl ?_
  refine z_bipush b dX9_init_344 (by decide) ?_
  refine p_newa (N := 8) (len := 29) [(12, fun _ => 0), (144, fun _ => 0), (144, fun _ => 0), (144, fun _ => 0), (1000, fun _ => 0), (12, fun _ => 0), (13, fun _ => 0), (13, fun _ => 0), (13, fun _ => 0), (13, fun _ => 0), (6, fu (fu (fu (fu (fu (fu (fun _ => 0) 0 8) 1 8) 2 8) 3 8) 4 8) 5 8), (6, fu (fu (fu (fu (fu (fu (fun _ => 0) 0 5) 1 5) 2 5) 3 5) 4 5) 5 5), (8, fun _ => 0), (80, fun _ => 0), (80, fun _ => 0), (1600, fun _ => 0), (1600, fun _ => 0), (1600, fun _ => 0), (1600, fun _ => 0), (40, fun _ => 0), (8, fun _ => 0), (8, fun _ => 0), (7, fun _ => 0), (15, fun _ => 0), (15, fun _ => 0), (8, fun _ => 0), (8, fun _ => 0), (8, fun _ => 0), (8, fun _ => 0), (8, fun _ => 0)] rfl b dX9_init_346 rfl rfl (by omega) (by omega) (by omega) ?_
  refine p_put [.int (iI 0), .int 0, .int (iI 0), .ref (mo + 1 + 0), .ref (mo + 1 + 1), .ref (mo + 1 + 2), .ref (mo + 1 + 3), .ref (mo + 1 + 4), .ref (mo + 1 + 5), .ref (mo + 1 + 6), .ref (mo + 1 + 7), .ref (mo + 1 + 8), .ref (mo + 1 + 9), .int (iI 0), .int (iI 0), .int (iI 0), .ref (mo + 1 + 10), .ref (mo + 1 + 11), .ref (mo + 1 + 12), .ref (mo + 1 + 13), .ref (mo + 1 + 14), .int (iI 0), .ref (mo + 1 + 15), .ref (mo + 1 + 16), .ref (mo + 1 + 17), .ref (mo + 1 + 18), .ref (mo + 1 + 19), .int (iI 0), .int (iI 0), .int (iI 0), .ref (mo + 1 + 20), .ref (mo + 1 + 21), .ref (mo + 1 + 22), .ref (mo + 1 + 23), .ref (mo + 1 + 24), .ref (mo + 1 + 25), .ref (mo + 1 + 26), .ref (mo + 1 + 27), .ref (mo + 1 + 28), .ref (mo + 1 + 29), .null, .null] rfl b dX9_init_348 lfX9_125 gtX9_39 (fun _ => rfl) (tlt rfl) rfl rfl ?_
  refine w_aload_n b dX9_init_351 rfl rfl ?_
  refine z_sipush b dX9_init_352 (by decide) ?_
  refine p_newa (N := 480) (len := 30) [(12, fun _ => 0), (144, fun _ => 0), (144, fun _ => 0), (144, fun _ => 0), (1000, fun _ => 0), (12, fun _ => 0), (13, fun _ => 0), (13, fun _ => 0), (13, fun _ => 0), (13, fun _ => 0), (6, fu (fu (fu (fu (fu (fu (fun _ => 0) 0 8) 1 8) 2 8) 3 8) 4 8) 5 8), (6, fu (fu (fu (fu (fu (fu (fun _ => 0) 0 5) 1 5) 2 5) 3 5) 4 5) 5 5), (8, fun _ => 0), (80, fun _ => 0), (80, fun _ => 0), (1600, fun _ => 0), (1600, fun _ => 0), (1600, fun _ => 0), (1600, fun _ => 0), (40, fun _ => 0), (8, fun _ => 0), (8, fun _ => 0), (7, fun _ => 0), (15, fun _ => 0), (15, fun _ => 0), (8, fun _ => 0), (8, fun _ => 0), (8, fun _ => 0), (8, fun _ => 0), (8, fun _ => 0), (480, fun _ => 0)] rfl b dX9_init_355 rfl rfl (by omega) (by omega) (by omega) ?_
  refine p_put [.int (iI 0), .int 0, .int (iI 0), .ref (mo + 1 + 0), .ref (mo + 1 + 1), .ref (mo + 1 + 2), .ref (mo + 1 + 3), .ref (mo + 1 + 4), .ref (mo + 1 + 5), .ref (mo + 1 + 6), .ref (mo + 1 + 7), .ref (mo + 1 + 8), .ref (mo + 1 + 9), .int (iI 0), .int (iI 0), .int (iI 0), .ref (mo + 1 + 10), .ref (mo + 1 + 11), .ref (mo + 1 + 12), .ref (mo + 1 + 13), .ref (mo + 1 + 14), .int (iI 0), .ref (mo + 1 + 15), .ref (mo + 1 + 16), .ref (mo + 1 + 17), .ref (mo + 1 + 18), .ref (mo + 1 + 19), .int (iI 0), .int (iI 0), .int (iI 0), .ref (mo + 1 + 20), .ref (mo + 1 + 21), .ref (mo + 1 + 22), .ref (mo + 1 + 23), .ref (mo + 1 + 24), .ref (mo + 1 + 25), .ref (mo + 1 + 26), .ref (mo + 1 + 27), .ref (mo + 1 + 28), .ref (mo + 1 + 29), .ref (mo + 1 + 30), .null] rfl b dX9_init_357 lfX9_128 gtX9_40 (fun _ => rfl) (tlt rfl) rfl rfl ?_
  refine w_aload_n b dX9_init_360 rfl rfl ?_
  refine z_bipush b dX9_init_361 (by decide) ?_
  refine p_newa (N := 60) (len := 31) [(12, fun _ => 0), (144, fun _ => 0), (144, fun _ => 0), (144, fun _ => 0), (1000, fun _ => 0), (12, fun _ => 0), (13, fun _ => 0), (13, fun _ => 0), (13, fun _ => 0), (13, fun _ => 0), (6, fu (fu (fu (fu (fu (fu (fun _ => 0) 0 8) 1 8) 2 8) 3 8) 4 8) 5 8), (6, fu (fu (fu (fu (fu (fu (fun _ => 0) 0 5) 1 5) 2 5) 3 5) 4 5) 5 5), (8, fun _ => 0), (80, fun _ => 0), (80, fun _ => 0), (1600, fun _ => 0), (1600, fun _ => 0), (1600, fun _ => 0), (1600, fun _ => 0), (40, fun _ => 0), (8, fun _ => 0), (8, fun _ => 0), (7, fun _ => 0), (15, fun _ => 0), (15, fun _ => 0), (8, fun _ => 0), (8, fun _ => 0), (8, fun _ => 0), (8, fun _ => 0), (8, fun _ => 0), (480, fun _ => 0), (60, fun _ => 0)] rfl b dX9_init_363 rfl rfl (by omega) (by omega) (by omega) ?_
  refine p_put [.int (iI 0), .int 0, .int (iI 0), .ref (mo + 1 + 0), .ref (mo + 1 + 1), .ref (mo + 1 + 2), .ref (mo + 1 + 3), .ref (mo + 1 + 4), .ref (mo + 1 + 5), .ref (mo + 1 + 6), .ref (mo + 1 + 7), .ref (mo + 1 + 8), .ref (mo + 1 + 9), .int (iI 0), .int (iI 0), .int (iI 0), .ref (mo + 1 + 10), .ref (mo + 1 + 11), .ref (mo + 1 + 12), .ref (mo + 1 + 13), .ref (mo + 1 + 14), .int (iI 0), .ref (mo + 1 + 15), .ref (mo + 1 + 16), .ref (mo + 1 + 17), .ref (mo + 1 + 18), .ref (mo + 1 + 19), .int (iI 0), .int (iI 0), .int (iI 0), .ref (mo + 1 + 20), .ref (mo + 1 + 21), .ref (mo + 1 + 22), .ref (mo + 1 + 23), .ref (mo + 1 + 24), .ref (mo + 1 + 25), .ref (mo + 1 + 26), .ref (mo + 1 + 27), .ref (mo + 1 + 28), .ref (mo + 1 + 29), .ref (mo + 1 + 30), .ref (mo + 1 + 31)] rfl b dX9_init_365 lfX9_131 gtX9_41 (fun _ => rfl) (tlt rfl) rfl rfl ?_
  refine w_aload_n b dX9_init_368 rfl rfl ?_
  refine z_iconst b dX9_init_369 ?_
  refine w_iload_n b dX9_init_370 rfl ?_
  refine z_bipush b dX9_init_371 (by decide) ?_
  refine z_iremT b dX9_init_373 (by omega) ?_
  refine z_bipush b dX9_init_374 (by decide) ?_
  refine z_iadd b dX9_init_376 ?_
  have ht1 := Int.tmod_lt_of_pos x (show (0 : Int) < 37 by decide)
  have ht2 := Int.lt_tmod_of_pos x (show (0 : Int) < 37 by decide)
  refine z_bipush b dX9_init_377 (by decide) ?_
  refine z_irem b dX9_init_379 (by omega) ?_
  refine z_iadd b dX9_init_380 ?_
  refine p_put [.int (iI 0), .int (iI (4 + (x.tmod 37 + 37) % 37)), .int (iI 0), .ref (mo + 1 + 0), .ref (mo + 1 + 1), .ref (mo + 1 + 2), .ref (mo + 1 + 3), .ref (mo + 1 + 4), .ref (mo + 1 + 5), .ref (mo + 1 + 6), .ref (mo + 1 + 7), .ref (mo + 1 + 8), .ref (mo + 1 + 9), .int (iI 0), .int (iI 0), .int (iI 0), .ref (mo + 1 + 10), .ref (mo + 1 + 11), .ref (mo + 1 + 12), .ref (mo + 1 + 13), .ref (mo + 1 + 14), .int (iI 0), .ref (mo + 1 + 15), .ref (mo + 1 + 16), .ref (mo + 1 + 17), .ref (mo + 1 + 18), .ref (mo + 1 + 19), .int (iI 0), .int (iI 0), .int (iI 0), .ref (mo + 1 + 20), .ref (mo + 1 + 21), .ref (mo + 1 + 22), .ref (mo + 1 + 23), .ref (mo + 1 + 24), .ref (mo + 1 + 25), .ref (mo + 1 + 26), .ref (mo + 1 + 27), .ref (mo + 1 + 28), .ref (mo + 1 + 29), .ref (mo + 1 + 30), .ref (mo + 1 + 31)] rfl b dX9_init_381 lfX9_134 gtX9_1 (fun _ => rfl) (tlt rfl) rfl rfl ?_
  exact w_vret b dX9_init_384 rfl (by omega) (by omega) ⟨rfl, congrArg (fun z => (z, mo + 1 + 32)) hfin_X9⟩
