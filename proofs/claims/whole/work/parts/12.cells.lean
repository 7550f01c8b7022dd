/-! RULES: instructions that touch cells -/
section FWC
variable {X : Cx} {l0 : Launch} {g : Gw} {μ : Md} {d mc ms : Nat} {Z : State → Prop} {kc ks pc : Nat} {L : List (Option Value)} {st : List Value} {σ : Sg}
/-- own's entry idx names field k of the class ci -/
def GF (own : String) (idx ci k : Nat) : Prop := ∃ (C : String) (T : u_T) (N : Nat) (ref : String), kcls[ci]? = some (C, T, N) ∧ k < N ∧ (∀ w ∈ u_ws C T N, w ∈ gw) ∧ Cond.fieldLink own idx ref (T k).2.1 (T k).2.2.1 ∈ gw ∧ (ref = (T k).1 ∨ Cond.sameField ref (T k).1 (T k).2.1 (T k).2.2.1 ∈ gw)
theorem gf_same {ref o n dd : String} {args : Array Value} {s : State} (hts : ∀ w ∈ gw, w.before args s = true) (h : ref = o ∨ Cond.sameField ref o n dd ∈ gw) : ∀ x, s.fieldFound? o n dd = some x → s.fieldFound? ref n dd = some x := by
  rcases h with rfl | h
  · exact fun _ h => h
  · exact u_same (hts _ h)
theorem w_getf {idx ci k q : Nat} {fs : List Value} {v : Value} (b : BX X l0 g μ d mc ms) (hd : decode μ.2.1 pc = .ok (.getfield idx, 3)) (lk : GF μ.1.cls idx ci k) (hc : σ.1 q = .inr (ci, fs)) (hv : fs[k]? = some v)
    (kk : WW X g μ.2.2.1 Z kc ks (pc + 3) L (v :: st) σ) : WW X g μ.2.2.1 Z kc ks pc L (.ref q :: st) σ := by
  obtain ⟨p, l, e, R, s, m, args, below, meth, c⟩ := X
  obtain ⟨hl0, hx, hb, hml, hr, hlk, hnm, hown, hts, hK, hSw, hB, hR1, hR2, hR3, hR4⟩ := b
  intro H locs ls hP hS hL
  obtain ⟨C, T, N, ref, h1, h2, h3, h4, h5⟩ := lk
  have ha := hP.at hc (neO h1)
  exact va_get (D := gD g) (ci := ci) (v := cv g v) (C := C) (T := T) (N := N) hx hb hts h3 hown hK.1 hP.2.2 q ha h1 k h2 (hts _ h4) (gf_same hts h5) (by rw [List.getElem?_map, hv]; rfl) hd (kk H locs ls hP hS hL)
/-- the class ci's table is as a put needs it -/
def GC (ci : Nat) : Prop := ∃ (C : String) (T : u_T) (N : Nat) (ty0 : Nat → FieldType), kcls[ci]? = some (C, T, N) ∧ (∀ k, k < N → parseFieldDescriptor (T k).2.2.1 = some (ty0 k)) ∧ (∀ a, a < N → ∀ b, b < N → a ≠ b → (T a).2.1 ≠ (T b).2.1)
/-- the field k of the class ci: its type, whether it is final -/
def GT (own : String) (ci k : Nat) (ty : FieldType) (fin : Bool) : Prop := ∀ (C : String) (T : u_T) (N : Nat), kcls[ci]? = some (C, T, N) → parseFieldDescriptor (T k).2.2.1 = some ty ∧ (T k).2.2.2 = fin ∧ (fin = true → (T k).1 = own)
theorem st_fin {s : State} {H H1 : Heap} {locs : List Loc} {q j : Nat} {c0 c1 : va_E} (hP : RH g σ H) (hS : va_S (gF g) s.heap H locs) (hc : σ.1 q = c0) (hn : c0 ≠ nilE) (he : va_at (gD g) kcls (gB g + q, ce g c1) H1) (hz : H1.size = H.size) (oq : ∀ x : Nat, x ≠ gB g + q → H1[x]? = H[x]?) :
    RH g (va_up σ.1 q c1, σ.2) H1 ∧ va_S (gF g) s.heap H1 (locs ++ [⟨gB g + q, j⟩]) := by
  have ha := hP.at hc hn
  exact ⟨hP.up hc hn hz (hP.2.2.set (wd_D g σ.1 σ.2) ha he oq), hS.put hz oq (Nat.le_add_right _ _)⟩
theorem w_putf {idx ci k q : Nat} {fs : List Value} {v : Value} {ty : FieldType} {fin : Bool} (b : BX X l0 g μ d mc ms) (hd : decode μ.2.1 pc = .ok (.putfield idx, 3)) (lk : GF μ.1.cls idx ci k) (gc : GC ci) (gt : GT μ.1.cls ci k ty fin) (hin : fin = true → μ.1.name = "<init>") (hc : σ.1 q = .inr (ci, fs)) (hl : k < fs.length) (hn : narrow ty (cv g v) = cv g v) (hfit : fits ty (cv g v) = true)
    (kk : WW X g μ.2.2.1 Z kc ks (pc + 3) L st (va_up σ.1 q (.inr (ci, fs.set k v)), σ.2)) : WW X g μ.2.2.1 Z kc ks pc L (v :: .ref q :: st) σ := by
  obtain ⟨p, l, e, R, s, m, args, below, meth, c⟩ := X
  obtain ⟨hl0, hx, hb, hml, hr, hlk, hnm, hown, hts, hK, hSw, hB, hR1, hR2, hR3, hR4⟩ := b
  intro H locs ls hP hS hL
  obtain ⟨C, T, N, ref, h1, h2, h3, h4, h5⟩ := lk
  obtain ⟨C', T', N', ty0, z1, hty, hnms⟩ := gc
  cases h1.symm.trans z1
  obtain ⟨hd2, hfin, hdecl⟩ := gt C T N h1
  have ha := hP.at hc (neO h1)
  have hap := va_apart (own := μ.1.cls) hts h3 ty0 hty hnms hK.1 h1
  obtain ⟨r, g1, cell, q1, q2, q3, q4⟩ := hP.2.2 q _ ha
  have hrr : r = (C, T, N) := Option.some.inj (g1.symm.trans h1)
  subst hrr
  obtain ⟨hSl, hfc, kC, hkC, hkind⟩ := hK.1.1 ci _ h1
  obtain ⟨cf, kf, fi, f, hi, hsl⟩ := hSl k h2
  have hlay := hts _ (h3 _ (u_in_lay h2))
  have hst := (u_facts hfc hkC (u_lays hts h3 h2) hi).1
  have key : ∀ H' : Heap, H'[gB g + q]? = some (cell.setSlot f.slot (cv g v)) → H'.size = H.size → (∀ x : Nat, x ≠ gB g + q → H'[x]? = H[x]?) → W p l e R s m args below meth c H' (locs ++ [⟨gB g + q, f.slot⟩]) kc ks Z (F0 m (pc + 3) ls (st.map (cv g))) := by
    intro H' e1 e2 e3
    have hat : va_at (gD g) kcls (gB g + q, ce g (.inr (ci, fs.set k v))) H' := by
      refine ⟨_, h1, t_OB.to (V := updV (vp_V (fs.map (cv g))) k (cv g v)) ⟨_, e1, q2, q3, ?_⟩ (fun j _ => ?_)⟩
      · rw [hsl]
        exact t_set q4 hap h2 (cv g v)
      · have e5 := vp_updV_set (fs := fs.map (cv g)) (k := k) (by rw [List.length_map]; exact hl) (cv g v) j
        rw [e5, List.map_set]
    obtain ⟨r1, r2⟩ := st_fin (j := f.slot) hP hS hc (neO h1) hat e2 e3
    exact kk H' _ ls r1 r2 hL
  cases fin with
  | false =>
    unfold u_lay at hlay
    rw [if_neg (by rw [hfin]; decide)] at hlay
    have h6 := u_store hfc hkC hkind hlay hi hd2 hn hfit
    exact W.putK hx hb (f := f) ⟨hown, hts _ h4, ⟨_, _, _, gf_same hts h5 _ hi⟩, hst⟩ (by rw [q2]; exact h6) q1 q3 (by rw [hsl]; exact k2_hasslot (q4 k h2)) rfl rfl hd key
  | true =>
    unfold u_lay at hlay
    rw [if_pos hfin] at hlay
    have hcf : m.cls = cf := by
      obtain ⟨_, _, c', _, _, _, -, -, hf', -, -, -, hown2, -⟩ := Cond.laysFinal_spec hlay
      have e1 : c' = cf := by have := hi.symm.trans hf'; simp at this; exact this.1.symm
      rw [hdecl rfl] at hown2
      rw [← e1]; exact Option.some.inj (hown.symm.trans hown2)
    have h6 := u_fits hfc hkC hkind (Or.inr hlay) hi hd2 hn hfit
    exact W.putFinK hx hb hown (hts _ h4) (gf_same hts h5 _ hi) hst hcf (hnm.trans (hin rfl)) (by rw [q2]; exact h6) q1 q3 (by rw [hsl]; exact k2_hasslot (q4 k h2)) rfl rfl hd key
/-! arrays -/
theorem w_iald {q n : Nat} {f : Nat → Int32} {i : Int32} (b : BX X l0 g μ d mc ms) (hd : decode μ.2.1 pc = .ok (.iaload, 1)) (hc : σ.1 q = .inl (0, n, .inl f)) (hin : vp_in i n)
    (kk : WW X g μ.2.2.1 Z kc ks (pc + 1) L (.int (f i.toNatClampNeg) :: st) σ) : WW X g μ.2.2.1 Z kc ks pc L (.int i :: .ref q :: st) σ := by
  obtain ⟨p, l, e, R, s, m, args, below, meth, c⟩ := X
  obtain ⟨hl0, hx, hb, hml, hr, hlk, hnm, hown, hts, hK, hSw, hB, hR1, hR2, hR3, hR4⟩ := b
  intro H locs ls hP hS hL
  exact va_iald hx hb hK.1 hP.2.2 q 0 (hP.at hc neI) rfl hin hd (kk H locs ls hP hS hL)
theorem w_bald {q n : Nat} {f : Nat → Int32} {i : Int32} (b : BX X l0 g μ d mc ms) (hd : decode μ.2.1 pc = .ok (.baload, 1)) (hc : σ.1 q = .inl (1, n, .inl f)) (hin : vp_in i n)
    (kk : WW X g μ.2.2.1 Z kc ks (pc + 1) L (.int (f i.toNatClampNeg) :: st) σ) : WW X g μ.2.2.1 Z kc ks pc L (.int i :: .ref q :: st) σ := by
  obtain ⟨p, l, e, R, s, m, args, below, meth, c⟩ := X
  obtain ⟨hl0, hx, hb, hml, hr, hlk, hnm, hown, hts, hK, hSw, hB, hR1, hR2, hR3, hR4⟩ := b
  intro H locs ls hP hS hL
  exact va_bald hx hb hK.1 hP.2.2 q 1 (hP.at hc neI) rfl hin hd (kk H locs ls hP hS hL)
theorem w_sald {q n : Nat} {f : Nat → Int32} {i : Int32} (b : BX X l0 g μ d mc ms) (hd : decode μ.2.1 pc = .ok (.saload, 1)) (hc : σ.1 q = .inl (2, n, .inl f)) (hin : vp_in i n)
    (kk : WW X g μ.2.2.1 Z kc ks (pc + 1) L (.int (f i.toNatClampNeg) :: st) σ) : WW X g μ.2.2.1 Z kc ks pc L (.int i :: .ref q :: st) σ := by
  obtain ⟨p, l, e, R, s, m, args, below, meth, c⟩ := X
  obtain ⟨hl0, hx, hb, hml, hr, hlk, hnm, hown, hts, hK, hSw, hB, hR1, hR2, hR3, hR4⟩ := b
  intro H locs ls hP hS hL
  exact va_sald hx hb hK.1 hP.2.2 q 2 (hP.at hc neI) rfl hin hd (kk H locs ls hP hS hL)
theorem w_lald {q n : Nat} {f : Nat → Int64} {i : Int32} (b : BX X l0 g μ d mc ms) (hd : decode μ.2.1 pc = .ok (.laload, 1)) (hc : σ.1 q = .inl (3, n, .inr (.inl f))) (hin : vp_in i n)
    (kk : WW X g μ.2.2.1 Z kc ks (pc + 1) L (.long (f i.toNatClampNeg) :: st) σ) : WW X g μ.2.2.1 Z kc ks pc L (.int i :: .ref q :: st) σ := by
  obtain ⟨p, l, e, R, s, m, args, below, meth, c⟩ := X
  obtain ⟨hl0, hx, hb, hml, hr, hlk, hnm, hown, hts, hK, hSw, hB, hR1, hR2, hR3, hR4⟩ := b
  intro H locs ls hP hS hL
  exact va_lald hx hb hK.1 hP.2.2 q 3 (hP.at hc neI) rfl hin hd (kk H locs ls hP hS hL)
/-- the class of the elements of an array of references, by its number -/
def aoN : Nat → String := fun t => match t with
  | 4 => "java/lang/Object"
  | 5 => RX7
  | 6 => RX3
  | _ => RX4
theorem aoN_ty (g : Gw) : ∀ t, 4 ≤ t → t < 8 → (tyl g)[t]? = some (gA g t, .object (aoN t)) := by
  intro t h1 h2
  rcases (show t = 4 ∨ t = 5 ∨ t = 6 ∨ t = 7 by omega) with rfl | rfl | rfl | rfl <;> rfl
theorem w_aald {q n t : Nat} {f : Nat → Option Nat} {i : Int32} {r : Option Nat} (b : BX X l0 g μ d mc ms) (hd : decode μ.2.1 pc = .ok (.aaload, 1)) (hc : σ.1 q = .inl (t, n, .inr (.inr (.inr (.inr f))))) (ht : 4 ≤ t ∧ t < 8) (hin : vp_in i n) (hr : f i.toNatClampNeg = r)
    (kk : WW X g μ.2.2.1 Z kc ks (pc + 1) L (va_rf r :: st) σ) : WW X g μ.2.2.1 Z kc ks pc L (.int i :: .ref q :: st) σ := by
  subst hr
  obtain ⟨p, l, e, R, s, m, args, below, meth, c⟩ := X
  obtain ⟨hl0, hx, hb, hml, hr, hlk, hnm, hown, hts, hK, hSw, hB, hR1, hR2, hR3, hR4⟩ := b
  intro H locs ls hP hS hL
  refine va_aldq (C := aoN t) hx hb hK.1 hP.2.2 q t (hP.at hc neI) (aoN_ty g t ht.1 ht.2) hin hd ?_
  have h1 := kk H locs ls hP hS hL
  refine W.eq ?_ h1
  show F0 m (pc + 1) ls _ = F0 m (pc + 1) ls _
  congr 1
  rw [List.map_cons]
  congr 1
  cases f i.toNatClampNeg <;> rfl
theorem w_alen {q n t : Nat} {y : (Nat → Int32) ⊕ (Nat → Int64) ⊕ (Nat → UInt32) ⊕ (Nat → UInt64) ⊕ (Nat → Option Nat)} {v : Int32} (b : BX X l0 g μ d mc ms) (hd : decode μ.2.1 pc = .ok (.arraylength, 1)) (hc : σ.1 q = .inl (t, n, y)) (ht : t < 8) (hv : Int32.ofNat n = v)
    (kk : WW X g μ.2.2.1 Z kc ks (pc + 1) L (.int v :: st) σ) : WW X g μ.2.2.1 Z kc ks pc L (.ref q :: st) σ := by
  obtain ⟨p, l, e, R, s, m, args, below, meth, c⟩ := X
  obtain ⟨hl0, hx, hb, hml, hr, hlk, hnm, hown, hts, hK, hSw, hB, hR1, hR2, hR3, hR4⟩ := b
  intro H locs ls hP hS hL
  have ha := hP.at hc neI
  have ht2 : ∃ ty, (tyl g)[t]? = some (gA g t, ty) := by
    rcases (show t = 0 ∨ t = 1 ∨ t = 2 ∨ t = 3 ∨ t = 4 ∨ t = 5 ∨ t = 6 ∨ t = 7 by omega) with rfl | rfl | rfl | rfl | rfl | rfl | rfl | rfl <;> exact ⟨_, rfl⟩
  obtain ⟨ty, ht2⟩ := ht2
  have he : ∃ y', ce g (.inl (t, n, y)) = .inl (gA g t, n, y') := by
    rcases y with f | f | f | f | f <;> exact ⟨_, rfl⟩
  obtain ⟨y', he⟩ := he
  rw [he] at ha
  exact va_alen (x := (n, y')) hx hb hK.1 hP.2.2 q t ha ht2 hv hd (kk H locs ls hP hS hL)
theorem w_alenE (b : BX X l0 g μ d mc ms) (hd : decode μ.2.1 pc = .ok (.arraylength, 1))
    (kk : WW X g μ.2.2.1 Z kc ks (pc + 1) L (.int 0 :: st) σ) : WW X g μ.2.2.1 Z kc ks pc L (.float 0 :: st) σ := by
  obtain ⟨p, l, e, R, s, m, args, below, meth, c⟩ := X
  obtain ⟨hl0, hx, hb, hml, hr, hlk, hnm, hown, hts, hK, hSw, hB, hR1, hR2, hR3, hR4⟩ := b
  intro H locs ls hP hS hL
  exact va_tlen hx hb hSw.2.1 hS rfl hd (kk H locs ls hP hS hL)
theorem w_slen (b : BX X l0 g μ d mc ms) (hd : decode μ.2.1 pc = .ok (.arraylength, 1))
    (kk : WW X g μ.2.2.1 Z kc ks (pc + 1) L (.int (nI (gL g)) :: st) σ) : WW X g μ.2.2.1 Z kc ks pc L (.float 1 :: st) σ := by
  obtain ⟨p, l, e, R, s, m, args, below, meth, c⟩ := X
  obtain ⟨hl0, hx, hb, hml, hr, hlk, hnm, hown, hts, hK, hSw, hB, hR1, hR2, hR3, hR4⟩ := b
  intro H locs ls hP hS hL
  exact va_slen hx hb hSw.2.2.1 (Nat.lt_of_lt_of_le hSw.2.2.2.1 hB) (Nat.not_le.mpr hSw.2.2.2.1) hS hd (kk H locs ls hP hS hL)
theorem w_sld {i : Int32} (b : BX X l0 g μ d mc ms) (hd : decode μ.2.1 pc = .ok (.iaload, 1)) (hin : vp_in i (gL g))
    (kk : WW X g μ.2.2.1 Z kc ks (pc + 1) L (.int (gX g i.toNatClampNeg) :: st) σ) : WW X g μ.2.2.1 Z kc ks pc L (.int i :: .float 1 :: st) σ := by
  obtain ⟨p, l, e, R, s, m, args, below, meth, c⟩ := X
  obtain ⟨hl0, hx, hb, hml, hr, hlk, hnm, hown, hts, hK, hSw, hB, hR1, hR2, hR3, hR4⟩ := b
  intro H locs ls hP hS hL
  exact va_sld hx hb hSw.2.2.1 (Nat.lt_of_lt_of_le hSw.2.2.2.1 hB) (Nat.not_le.mpr hSw.2.2.2.1) hS hin hd (kk H locs ls hP hS hL)
theorem fw_updI (f : Nat → Int32) (k : Nat) (x : Int32) : (fun j => Value.int (upd f k x j)) = updV (fun j => Value.int (f j)) k (.int x) := by
  funext j
  by_cases h : j = k
  · subst h
    simp [upd, updV]
  · simp [upd, updV, h]
theorem w_iast {q n : Nat} {f : Nat → Int32} {i x : Int32} (b : BX X l0 g μ d mc ms) (hd : decode μ.2.1 pc = .ok (.iastore, 1)) (hc : σ.1 q = .inl (0, n, .inl f)) (hin : vp_in i n)
    (kk : WW X g μ.2.2.1 Z kc ks (pc + 1) L st (va_up σ.1 q (.inl (0, n, .inl (upd f i.toNatClampNeg x))), σ.2)) : WW X g μ.2.2.1 Z kc ks pc L (.int x :: .int i :: .ref q :: st) σ := by
  obtain ⟨p, l, e, R, s, m, args, below, meth, c⟩ := X
  obtain ⟨hl0, hx, hb, hml, hr, hlk, hnm, hown, hts, hK, hSw, hB, hR1, hR2, hR3, hR4⟩ := b
  intro H locs ls hP hS hL
  have ha := hP.at hc neI
  refine W.iast hx hb (hP.2.2 q _ ha) ((hK.1.2 0 _ rfl).1 n (fun j => .int (f j))) (fun z => by cases z) (by show ¬ (i < 0 ∨ (arrV _ _ _).slots.size ≤ _); rw [arrV_size]; exact hin) rfl rfl hd fun H1 e z oq => ?_
  obtain ⟨r1, r2⟩ := st_fin (j := i.toNatClampNeg) (c1 := .inl (0, n, .inl (upd f i.toNatClampNeg x))) hP hS hc neI (by
    show H1[gB g + q]? = some (vp_cell _ _)
    rw [e, vp_cell_i, vp_cell_i, arrV_store, fw_updI]) z oq
  exact kk H1 _ ls r1 r2 hL
theorem w_bast {q n : Nat} {f : Nat → Int32} {i x : Int32} (b : BX X l0 g μ d mc ms) (hd : decode μ.2.1 pc = .ok (.bastore, 1)) (hc : σ.1 q = .inl (1, n, .inl f)) (hin : vp_in i n)
    (kk : WW X g μ.2.2.1 Z kc ks (pc + 1) L st (va_up σ.1 q (.inl (1, n, .inl (upd f i.toNatClampNeg (vp_nar .byte x)))), σ.2)) : WW X g μ.2.2.1 Z kc ks pc L (.int x :: .int i :: .ref q :: st) σ := by
  obtain ⟨p, l, e, R, s, m, args, below, meth, c⟩ := X
  obtain ⟨hl0, hx, hb, hml, hr, hlk, hnm, hown, hts, hK, hSw, hB, hR1, hR2, hR3, hR4⟩ := b
  intro H locs ls hP hS hL
  have ha := hP.at hc neI
  refine W.bast hx hb (hP.2.2 q _ ha) ((hK.1.2 1 _ rfl).1 n (fun j => .int (f j))) (fun z => by cases z) (by show ¬ (i < 0 ∨ (arrV _ _ _).slots.size ≤ _); rw [arrV_size]; exact hin) rfl rfl hd fun H1 e z oq => ?_
  obtain ⟨r1, r2⟩ := st_fin (j := i.toNatClampNeg) (c1 := .inl (1, n, .inl (upd f i.toNatClampNeg (vp_nar .byte x)))) hP hS hc neI (by
    show H1[gB g + q]? = some (vp_cell _ _)
    rw [e, vp_cell_i, vp_cell_i, arrV_store, fw_updI]
    rfl) z oq
  exact kk H1 _ ls r1 r2 hL
theorem w_sast {q n : Nat} {f : Nat → Int32} {i x : Int32} (b : BX X l0 g μ d mc ms) (hd : decode μ.2.1 pc = .ok (.sastore, 1)) (hc : σ.1 q = .inl (2, n, .inl f)) (hin : vp_in i n)
    (kk : WW X g μ.2.2.1 Z kc ks (pc + 1) L st (va_up σ.1 q (.inl (2, n, .inl (upd f i.toNatClampNeg (vp_nar .short x)))), σ.2)) : WW X g μ.2.2.1 Z kc ks pc L (.int x :: .int i :: .ref q :: st) σ := by
  obtain ⟨p, l, e, R, s, m, args, below, meth, c⟩ := X
  obtain ⟨hl0, hx, hb, hml, hr, hlk, hnm, hown, hts, hK, hSw, hB, hR1, hR2, hR3, hR4⟩ := b
  intro H locs ls hP hS hL
  have ha := hP.at hc neI
  refine W.sast hx hb (hP.2.2 q _ ha) ((hK.1.2 2 _ rfl).1 n (fun j => .int (f j))) (fun z => by cases z) (by show ¬ (i < 0 ∨ (arrV _ _ _).slots.size ≤ _); rw [arrV_size]; exact hin) rfl rfl hd fun H1 e z oq => ?_
  obtain ⟨r1, r2⟩ := st_fin (j := i.toNatClampNeg) (c1 := .inl (2, n, .inl (upd f i.toNatClampNeg (vp_nar .short x)))) hP hS hc neI (by
    show H1[gB g + q]? = some (vp_cell _ _)
    rw [e, vp_cell_i, vp_cell_i, arrV_store, fw_updI]
    rfl) z oq
  exact kk H1 _ ls r1 r2 hL
theorem w_last {q n : Nat} {f : Nat → Int64} {i : Int32} {x : Int64} (b : BX X l0 g μ d mc ms) (hd : decode μ.2.1 pc = .ok (.lastore, 1)) (hc : σ.1 q = .inl (3, n, .inr (.inl f))) (hin : vp_in i n)
    (kk : WW X g μ.2.2.1 Z kc ks (pc + 1) L st (va_up σ.1 q (.inl (3, n, .inr (.inl (vp_updL f i.toNatClampNeg x)))), σ.2)) : WW X g μ.2.2.1 Z kc ks pc L (.long x :: .int i :: .ref q :: st) σ := by
  obtain ⟨p, l, e, R, s, m, args, below, meth, c⟩ := X
  obtain ⟨hl0, hx, hb, hml, hr, hlk, hnm, hown, hts, hK, hSw, hB, hR1, hR2, hR3, hR4⟩ := b
  intro H locs ls hP hS hL
  have ha := hP.at hc neI
  refine W.last hx hb (hP.2.2 q _ ha) ((hK.1.2 3 _ rfl).1 n (fun j => .long (f j))) (fun z => by cases z) (by show ¬ (i < 0 ∨ (arrV _ _ _).slots.size ≤ _); rw [arrV_size]; exact hin) rfl rfl hd fun H1 e z oq => ?_
  obtain ⟨r1, r2⟩ := st_fin (j := i.toNatClampNeg) (c1 := .inl (3, n, .inr (.inl (vp_updL f i.toNatClampNeg x)))) hP hS hc neI (by
    show H1[gB g + q]? = some (vp_cell _ _)
    rw [e, vp_cell_l, vp_cell_l, arrV_store]
    congr 2
    funext j
    by_cases h : j = i.toNatClampNeg
    · subst h
      simp [vp_updL, updV]
    · simp [vp_updL, updV, h]) z oq
  exact kk H1 _ ls r1 r2 hL
/-- an element that may lie in an array of references: a cell of the class ci; the array's own class, or Object with castable said -/
theorem w_aast {q n t w ci : Nat} {fs : List Value} {C : String} {T : u_T} {N : Nat} {f : Nat → Option Nat} {i : Int32} (b : BX X l0 g μ d mc ms) (hd : decode μ.2.1 pc = .ok (.aastore, 1)) (hc : σ.1 q = .inl (t, n, .inr (.inr (.inr (.inr f))))) (ht : 4 ≤ t ∧ t < 8) (hw : σ.1 w = .inr (ci, fs)) (hC : kcls[ci]? = some (C, T, N)) (hE : C = aoN t ∨ (t = 4 ∧ C ∈ caC)) (hin : vp_in i n)
    (kk : WW X g μ.2.2.1 Z kc ks (pc + 1) L st (va_up σ.1 q (.inl (t, n, .inr (.inr (.inr (.inr (va_up f i.toNatClampNeg (some w))))))), σ.2)) : WW X g μ.2.2.1 Z kc ks pc L (.ref w :: .int i :: .ref q :: st) σ := by
  obtain ⟨p, l, e, R, s, m, args, below, meth, c⟩ := X
  obtain ⟨hl0, hx, hb, hml, hr, hlk, hnm, hown, hts, hK, hSw, hB, hR1, hR2, hR3, hR4⟩ := b
  intro H locs ls hP hS hL
  have ha := hP.at hc neI
  have hv := hP.at hw (neO hC)
  have hlt : i.toNatClampNeg < n := Nat.not_le.mp fun z => hin (Or.inr z)
  have h0 : ¬ i < 0 := fun z => hin (Or.inl z)
  obtain ⟨cell, v1, v2, v3⟩ := va_recv hK.1 hP.2.2 hC hv
  obtain ⟨kA, comp, k1, k2, k3, -⟩ := (hK.1.2 t _ (aoN_ty g t ht.1 ht.2)).2
  have hcls := (hK.1.1 ci _ hC).2
  obtain ⟨kE, hkE, -⟩ := Vm.findClass_spec k3
  obtain ⟨kC, hkC, -⟩ := hcls.2
  have hcc : cell.cls = (gD g).1 ci := Option.some.inj (v3.symm.trans hcls.1)
  have hasg : s.vm.assignable cell.cls comp = true := by
    rcases hE with rfl | hE
    · have hcomp : comp = (gD g).1 ci := Option.some.inj (k3.symm.trans hcls.1)
      rw [hcc, hcomp]
      exact va_assign hcls
    · obtain ⟨rfl, hE⟩ := hE
      obtain ⟨c0, t1, f1, f2, f3⟩ := Cond.castable_spec (va_Nw.use (A := args) rfl (hK.2.2.2.1 C hE))
      cases v3.symm.trans f1
      cases k3.symm.trans f2
      exact f3
  refine W.aast hx hb (hP.2.2 q _ ha) (fun z h => by cases h) (fun h => by cases h) k1 k2 rfl hkE ⟨h0, by show _ < (arrV _ _ _).slots.size; rw [arrV_size]; exact hlt⟩ v1 (fun z h => by rw [h] at v2; cases v2) (by rw [hcc]; exact hkC) hasg rfl rfl hd fun H1 e z oq => ?_
  obtain ⟨r1, r2⟩ := st_fin (j := i.toNatClampNeg) (c1 := .inl (t, n, .inr (.inr (.inr (.inr (va_up f i.toNatClampNeg (some w))))))) hP hS hc neI (by
    show H1[gB g + q]? = some (vp_cell _ _)
    rw [e, vp_cell_q, vp_cell_q, arrV_store]
    congr 2
    funext j
    by_cases h : j = i.toNatClampNeg
    · subst h
      simp [va_up, updV, va_rf]
    · simp [va_up, updV, h]) z oq
  exact kk H1 _ ls r1 r2 hL
end FWC
