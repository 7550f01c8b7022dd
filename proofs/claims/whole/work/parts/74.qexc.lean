/-! EXCEPTIONS: thrown, caught (by p74.py; vx_catch is a starting text of the claim) -/
section VXC
variable {p : Program} {l : Launch} {e : Env} {R : Room} {s : State} {m : MethodId} {args : Array Value} {below : List Frame} {meth : Method} {c : Code} {H : Heap} {locs : List Loc} {cells slots : Nat} {Q : State → Prop}
variable {mc ms : Nat} {free : Addr → Prop} {A0 A1 : Nat → Prop} {H0 : Heap} {a : Array Value} {pc : Nat} {ls : Array Slot} {st0 rest : List Value}
theorem vx_catch {own name : String} {E : String} {ce : Cell} {q : Addr} (hown : s.vm.findClass own = some m.cls) (pre : List ExceptionTableEntry) (x : ExceptionTableEntry) (suf : List ExceptionTableEntry) (hsplit : c.exceptionTable.toList = pre ++ x :: suf)
    (hpass : ∀ z ∈ pre, covers z pc = false ∨ (z.catchType ≠ 0 ∧ ∃ nm : String, (Cond.classLink own z.catchType nm).before args s = true ∧ va_Nc E nm s)) (hx : covers x pc = true) (h0 : x.catchType ≠ 0)
    (hlink : (Cond.classLink own x.catchType name).before args s = true) (hcast : (Cond.castable E name).before args s = true) (hcell : H[q]? = some ce) (hv : ce.vm = .none) (hcl : s.vm.findClass E = some ce.cls)
    (kk : W p l e R s m args below meth c H locs cells slots Q (F0 m x.handlerPc ls [.ref q])) : vx_W p l e R s m args below meth c H locs cells slots Q (F0 m pc ls rest) q := by
  intro T hT X
  have hpl : e.platform.magicAccessors = ({} : Platform).magicAccessors := by rw [X.admits.platform]
  obtain ⟨c3, c4, hc3, hc4, hasg⟩ := Cond.castable_spec hcast
  cases Option.some.inj (hc3.symm.trans hcl)
  obtain ⟨c5, hc5, hcl5⟩ := Cond.classLink_spec hown hlink e.platform hpl
  cases Option.some.inj (hc4.symm.trans hc5)
  obtain ⟨vm', X', st⟩ := X.thenCaughtThrough q (g := F0 m pc ls rest) rfl (Steps.refl _) (by rw [hT]; exact hcell) (by rw [hv]; rfl) (by obtain ⟨k9, h9, -⟩ := Vm.findClass_spec hcl; exact ⟨k9, h9⟩) pre x suf hsplit
    (fun z hz => by
      rcases hpass z hz with h | ⟨hz0, nm, hl1, hn1⟩
      · exact Or.inl h
      · obtain ⟨c6, hc6, hcl6⟩ := Cond.classLink_spec hown hl1 e.platform hpl
        obtain ⟨a8, b8, h1, h2, h3⟩ := hn1
        cases Option.some.inj (h1.symm.trans hcl)
        cases Option.some.inj (h2.symm.trans hc6)
        exact Or.inr ⟨hz0, _, hcl6, h3⟩) hx (Or.inr ⟨h0, c4, hcl5, hasg⟩)
  obtain ⟨t, a1, b1⟩ := kk (T.setVm vm') hT X'
  exact ⟨t, st.trans a1, b1⟩
end VXC
abbrev mX8_toss : Md := (yX8_toss, cX8_toss, 4, some .int)
abbrev mL_element : Md := (yL_element, cL_element, 5, some .int)
abbrev hhT : List (Nat × Nat × Nat × Nat) := [(16, 20, 23, 277)]
abbrev hhE : List (Nat × Nat × Nat × Nat) := [(0, 9, 12, 13), (0, 9, 16, 15)]
def wsh (μ : Md) (hh : List (Nat × Nat × Nat × Nat)) : List Cond := .codeWith μ.1 μ.2.1 μ.2.2.1 μ.2.2.2 hh :: gw
/-- a contract of a method that has handlers -/
def MH (l : Launch) (g : Gw) (d : Nat) (μ : Md) (hh : List (Nat × Nat × Nat × Nat)) (σ : Sg) (vs : List Value) (mc ms : Nat) (Q : Option Value → Sg → Prop) : Prop := Met l μ.1 (wsh μ hh) (rmm d mc ms) (Pm g σ vs) (Qm g Q) mc ms (gF g)
def XQ (g : Gw) (E : String) (σ1 : Sg) : String → State → State → Prop := fun E' st t => E' = E ∧ RH g σ1 t.heap ∧ va_F (gF g) st t
/-- a contract of a call that throws -/
def MT (l : Launch) (g : Gw) (d : Nat) (μ : Md) (σ : Sg) (vs : List Value) (mc ms : Nat) (E : String) (σ1 : Sg) : Prop := vx_Met l μ.1 (wsm μ) (rmm d mc ms) (Pm g σ vs) (fun _ _ _ _ => False) (XQ g E σ1) mc ms (gF g)
def TB (X : Cx) (t : List ExceptionTableEntry) : Prop := match X with
  | (_, _, _, _, _, _, _, _, _, c) => c.exceptionTable.toList = t
def TE (X : Cx) : Prop := match X with
  | (_, _, _, _, _, _, _, _, _, c) => ∀ x ∈ c.exceptionTable.toList, False
def ZX (X : Cx) (g : Gw) (E : String) (σ1 : Sg) (mc ms : Nat) : State → Prop := match X with
  | (_, _, _, _, s, _, args, below, _, _) => vx_MQ below (fun _ _ _ _ => False) (XQ g E σ1) args s mc ms (gF g)
theorem LH.entry {g : Gw} {vs : List Value} {n : Nat} (hcat : ∀ v ∈ vs, v.category = 1) (hlen : vs.length ≤ n) : LH g ((lg_sl (vs.map (cv g)) ++ List.replicate (n - (lg_sl (vs.map (cv g))).length) Slot.unset).toArray) n (arL vs n) := by
  have hcat2 : ∀ v ∈ vs.map (cv g), v.category = 1 := by
    intro v hv
    obtain ⟨w, hw, rfl⟩ := List.mem_map.mp hv
    rw [cv_cat]
    exact hcat w hw
  have hle : (lg_sl (vs.map (cv g))).length ≤ n := by
    rw [lg_sl1 _ hcat2, List.length_map, List.length_map]
    exact hlen
  have he := lv_entry (vs.map (cv g)) hle
  refine ⟨he.1, ?_, he.2.1, fun i v hv => ?_⟩
  · unfold arL
    rw [List.length_append, List.length_map, List.length_replicate]
    omega
  · unfold arL at hv
    by_cases hi : i < vs.length
    · rw [List.getElem?_append_left (by rw [List.length_map]; exact hi), List.getElem?_map] at hv
      cases hv2 : vs[i]? with
      | none => rw [hv2] at hv; cases hv
      | some w =>
        rw [hv2] at hv
        cases hv
        have h5 := lv_args1 _ hcat2 0 i (cv g v) (by rw [List.getElem?_map, hv2]; rfl)
        rw [Nat.zero_add] at h5
        exact he.2.2 _ h5
    · rw [List.getElem?_append_right (by rw [List.length_map]; omega)] at hv
      have := List.eq_of_mem_replicate (List.mem_of_getElem? hv)
      cases this
theorem LH.setN {g : Gw} {ls ls' : Array Slot} {nL : Nat} {L : List (Option Value)} {i : Nat} {u : Value} (h : LH g ls nL L) (hi : i < nL) (ok : okS L i = true)
    (h' : lv_has ls' nL ((i, u) :: (knL g L).filter (fun q => !(q.1 == i) && !(q.1 + 1 == i && q.2.category == 2)))) : LH g ls' nL (L.set i none) := by
  refine ⟨h'.1, by rw [List.length_set]; exact h.2.1, h'.2.1, fun j w hj => ?_⟩
  by_cases hij : i = j
  · subst hij
    rw [List.getElem?_set_self (by rw [h.2.1]; exact hi)] at hj
    cases hj
  · rw [List.getElem?_set_ne hij] at hj
    refine h'.2.2 (j, cv g w) (List.mem_cons_of_mem _ (List.mem_filter.mpr ⟨knL_mem.mpr ⟨w, hj, rfl⟩, ?_⟩))
    have h1 : (j == i) = false := by simp; omega
    by_cases h2 : j + 1 = i
    · subst h2
      have h3 : (w.category == 1) = true := by
        unfold okS at ok
        simp only [hj] at ok
        exact ok
      have h4 : w.category = 1 := by simpa using h3
      simp [cv_cat, h4]
    · have h3 : (j + 1 == i) = false := by simp; omega
      simp [h1, h3]
section FWX
variable {X : Cx} {l0 : Launch} {g : Gw} {μ : Md} {d mc ms : Nat} {Z : State → Prop} {kc ks pc : Nat} {L : List (Option Value)} {st : List Value} {σ : Sg}
theorem MH.of {hh : List (Nat × Nat × Nat × Nat)} {vs : List Value} {Q : Option Value → Sg → Prop} (hy : plainName μ.1.cls = true) (hcat : ∀ v ∈ vs, v.category = 1) (hlen : vs.length ≤ μ.2.2.1)
    (h : ∀ X : Cx, BX X l0 g μ d mc ms → TB X (tableOf hh) → WW X g μ.2.2.1 (ZQ X g Q mc ms) 0 0 0 (arL vs μ.2.2.1) [] σ) : MH l0 g d μ hh σ vs mc ms Q := by
  refine va_MetW (cc := μ.2.1) (maxL := μ.2.2.1) (ret := μ.2.2.2) (hh := hh) hy rfl ?_
  rintro p e s m args below meth c s₁ B hml ⟨rfl, hP, hK, hSw⟩
  have hts : ∀ w ∈ gw, w.before ((vs.map (cv g)).toArray) s = true := fun w hw => atoms_spec (ws := wsh μ hh) B.pre w (List.mem_cons_of_mem _ hw)
  have htb : c.exceptionTable.toList = tableOf hh := vx_table (x := μ.1) B (atoms_spec (ws := wsh μ hh) B.pre _ List.mem_cons_self)
  have hB : gB g ≤ s.heap.size := by rw [hP.1]; omega
  have hbx : BX (p, l0, e, (headSpec (wsh μ hh) (rmm d mc ms)).room, s, m, (vs.map (cv g)).toArray, below, meth, c) l0 g μ d mc ms :=
    ⟨rfl, B.exec, B.bytes, hml, B.returns, B.notSynchronized, (name_of_methodNamed B.named B.method).1, findClass_of_methodNamed B.named, hts, hK, hSw, hB, Nat.le_refl _, Nat.le_refl _, rfl, rfl⟩
  have k1 := h _ hbx htb s.heap [] ((lg_sl (vs.map (cv g)) ++ List.replicate (μ.2.2.1 - (lg_sl (vs.map (cv g))).length) Slot.unset).toArray) hP va_S.rf (LH.entry hcat hlen)
  rw [lg_entry_eq]
  exact k1
theorem MT.of {vs : List Value} {E : String} {σ1 : Sg} (hy : plainName μ.1.cls = true) (hcat : ∀ v ∈ vs, v.category = 1) (hlen : vs.length ≤ μ.2.2.1)
    (h : ∀ X : Cx, BX X l0 g μ d mc ms → TE X → WW X g μ.2.2.1 (ZX X g E σ1 mc ms) 0 0 0 (arL vs μ.2.2.1) [] σ) : MT l0 g d μ σ vs mc ms E σ1 := by
  refine vx_ofW (cc := μ.2.1) (maxL := μ.2.2.1) (ret := μ.2.2.2) hy rfl ?_
  rintro p e s m args below meth c s₁ B hml hte ⟨rfl, hP, hK, hSw⟩
  have hts : ∀ w ∈ gw, w.before ((vs.map (cv g)).toArray) s = true := fun w hw => atoms_spec (ws := wsm μ) B.pre w (List.mem_cons_of_mem _ hw)
  have hB : gB g ≤ s.heap.size := by rw [hP.1]; omega
  have hbx : BX (p, l0, e, (headSpec (wsm μ) (rmm d mc ms)).room, s, m, (vs.map (cv g)).toArray, below, meth, c) l0 g μ d mc ms :=
    ⟨rfl, B.exec, B.bytes, hml, B.returns, B.notSynchronized, (name_of_methodNamed B.named B.method).1, findClass_of_methodNamed B.named, hts, hK, hSw, hB, Nat.le_refl _, Nat.le_refl _, rfl, rfl⟩
  have k1 := h _ hbx hte s.heap [] ((lg_sl (vs.map (cv g)) ++ List.replicate (μ.2.2.1 - (lg_sl (vs.map (cv g))).length) Slot.unset).toArray) hP va_S.rf (LH.entry hcat hlen)
  rw [lg_entry_eq]
  exact k1
/-- what a throw of E in own, its constructor at ic, needs of the tables -/
def TW (own : String) (ik ic : Nat) (E : String) : Prop := Cond.classLink own ik E ∈ gw ∧ Cond.initialized E ∈ gw ∧ (∀ w ∈ (vx_atS own ic E exN).filter goodWord, w ∈ gw) ∧ (∀ w ∈ (vx_atS own ic E exN).filter (fun w => !goodWord w), w ∈ cdW) ∧ (∀ w ∈ Cond.classLink own ik E :: Cond.initialized E :: vx_atS own ic E exN, vx_ot w = true) ∧ Bundle.fit E = true
theorem w_throwS {ik is ic ci : Nat} {E text : String} (b : BX X l0 g μ d mc ms) (hl : l0.stackTraces = false) (hte : TE X) (tw : TW μ.1.cls ik ic E) (hci : kcls[ci]? = some (E, fw_TE, 0)) (hst : (μ.1.cls, is, text) ∈ strW)
    (d0 : decode μ.2.1 pc = .ok (.new ik, 3)) (d3 : decode μ.2.1 (pc + 3) = .ok (.dup, 1)) (d4 : decode μ.2.1 (pc + 4) = .ok (.ldc is, 2)) (d6 : decode μ.2.1 (pc + 6) = .ok (.invokespecial ic, 3)) (d9 : decode μ.2.1 (pc + 9) = .ok (.athrow, 1)) (hd : 6 ≤ d) (hw8 : (st.map fun v => v.category).sum ≤ 8) (hkc : kc + 1 ≤ mc) (hks : ks + 6 ≤ ms) :
    WW X g μ.2.2.1 (ZX X g E (va_up σ.1 σ.2 (.inr (ci, [])), σ.2 + 1) mc ms) kc ks pc L st σ := by
  obtain ⟨p, l, e, R, s, m, args, below, meth, c⟩ := X
  obtain ⟨hl0, hx, hb, hml, hr, hlk, hnm, hown, hts, hK, hSw, hB, hR1, hR2, hR3, hR4⟩ := b
  subst hl0
  intro H locs ls hP hS hL
  obtain ⟨t1, t2, t3, t4, t5, t6⟩ := tw
  obtain ⟨sa, hsa⟩ := hK.2.2.2.2.2.1 _ hst
  refine vx_throwS (A := gF g) (text := text) (is := is) (sa := sa) (names := exN) hx hb hl hown t6 (by decide) (hts _ t1) (hts _ t2) hsa (vx_hat (fun w hw => hts w (t3 w hw)) t4 (fun w hw => va_Nw.use (A := args) (cdW_ok w hw).2 (hK.2.2.2.2.2.2.1 w hw))) t5 hSw.2.2.2.2.2.1 hSw.2.2.2.2.2.2 hS (by rw [hL.1]; exact hml.symm) d0 d3 d4 d6 d9 (fun x hx => absurd hx (fun z => hte x z)) (by show 2 + 3 < R.frames; omega) (by rw [cv_cats]; show _ + (13 * (2 + 1) + 43) ≤ R.locals; omega) (by omega) (by omega) hlk (fun t ce0 hal hz hq hce hcv hcl => ⟨rfl, ?_, ?_⟩) hS.2.2 hkc hks
  · refine (al_fin (c1 := .inr (ci, [])) hP hS ?_ hz hq).1
    refine ⟨_, hci, ce0, by rw [← hP.1]; exact hce, ?_, hcv, fun k hk => absurd hk (Nat.not_lt_zero k)⟩
    exact Option.some.inj (hcl.symm.trans (hK.1.1 ci _ hci).2.1)
  · exact ⟨Nat.le_trans hS.1 (by omega), fun q h1 h2 => (hq q (Nat.lt_of_lt_of_le h1 hS.1)).trans (hS.2.1 q h1 h2)⟩
theorem w_throwSW {ik is ic ci : Nat} {E text : String} (b : BX X l0 g μ d mc ms) (hl : l0.stackTraces = false) (hte : TE X) (tw : TW μ.1.cls ik ic E) (hci : kcls[ci]? = some (E, fw_TE, 0)) (hst : (μ.1.cls, is, text) ∈ strW)
    (d0 : decode μ.2.1 pc = .ok (.new ik, 3)) (d3 : decode μ.2.1 (pc + 3) = .ok (.dup, 1)) (d4 : decode μ.2.1 (pc + 4) = .ok (.ldc_w is, 3)) (d7 : decode μ.2.1 (pc + 7) = .ok (.invokespecial ic, 3)) (d10 : decode μ.2.1 (pc + 10) = .ok (.athrow, 1)) (hd : 6 ≤ d) (hw8 : (st.map fun v => v.category).sum ≤ 8) (hkc : kc + 1 ≤ mc) (hks : ks + 6 ≤ ms) :
    WW X g μ.2.2.1 (ZX X g E (va_up σ.1 σ.2 (.inr (ci, [])), σ.2 + 1) mc ms) kc ks pc L st σ := by
  obtain ⟨p, l, e, R, s, m, args, below, meth, c⟩ := X
  obtain ⟨hl0, hx, hb, hml, hr, hlk, hnm, hown, hts, hK, hSw, hB, hR1, hR2, hR3, hR4⟩ := b
  subst hl0
  intro H locs ls hP hS hL
  obtain ⟨t1, t2, t3, t4, t5, t6⟩ := tw
  obtain ⟨sa, hsa⟩ := hK.2.2.2.2.2.1 _ hst
  refine vx_throwSW (A := gF g) (text := text) (is := is) (sa := sa) (names := exN) hx hb hl hown t6 (by decide) (hts _ t1) (hts _ t2) hsa (vx_hat (fun w hw => hts w (t3 w hw)) t4 (fun w hw => va_Nw.use (A := args) (cdW_ok w hw).2 (hK.2.2.2.2.2.2.1 w hw))) t5 hSw.2.2.2.2.2.1 hSw.2.2.2.2.2.2 hS (by rw [hL.1]; exact hml.symm) d0 d3 d4 d7 d10 (fun x hx => absurd hx (fun z => hte x z)) (by show 2 + 3 < R.frames; omega) (by rw [cv_cats]; show _ + (13 * (2 + 1) + 43) ≤ R.locals; omega) (by omega) (by omega) hlk (fun t ce0 hal hz hq hce hcv hcl => ⟨rfl, ?_, ?_⟩) hS.2.2 hkc hks
  · refine (al_fin (c1 := .inr (ci, [])) hP hS ?_ hz hq).1
    refine ⟨_, hci, ce0, by rw [← hP.1]; exact hce, ?_, hcv, fun k hk => absurd hk (Nat.not_lt_zero k)⟩
    exact Option.some.inj (hcl.symm.trans (hK.1.1 ci _ hci).2.1)
  · exact ⟨Nat.le_trans hS.1 (by omega), fun q h1 h2 => (hq q (Nat.lt_of_lt_of_le h1 hS.1)).trans (hS.2.1 q h1 h2)⟩
/-- a call that throws, caught here -/
theorem w_callVT {idx n ci d' mc' ms' q : Nat} {μ' : Md} {fs vs : List Value} {E name : String} {σ1 : Sg} {st0 : List Value} {pre suf : List ExceptionTableEntry} {x : ExceptionTableEntry} (b : BX X l0 g μ d mc ms) (hd : decode μ.2.1 pc = .ok (.invokevirtual idx, 3)) (lk : LV μ.1.cls idx n ci μ') (hst : st0 = vs.reverse ++ .ref q :: st) (hn : vs.length = n) (hc : σ.1 q = .inr (ci, fs)) (hw : (st.map fun v => v.category).sum ≤ 8) (hdd : d' + 1 ≤ d) (hkc : kc + mc' ≤ mc) (hks : ks + ms' ≤ ms) (hM : MT l0 g d' μ' σ (.ref q :: vs) mc' ms' E σ1)
    (htb : TB X (pre ++ x :: suf)) (hpass : ∀ z ∈ pre, covers z pc = false ∨ (z.catchType ≠ 0 ∧ ∃ nm, Cond.classLink μ.1.cls z.catchType nm ∈ gw ∧ E = isE ∧ nm = iaE)) (hx9 : covers x pc = true) (h09 : x.catchType ≠ 0) (hlink : Cond.classLink μ.1.cls x.catchType name ∈ gw) (hcast : Cond.castable E name ∈ cdW)
    {i : Nat} (hia : (∃ k : Fin 4, (k : Nat) = i ∧ decode μ.2.1 x.handlerPc = .ok (.astore_n k, 1) ∧ WW X g μ.2.2.1 Z (kc + mc') (ks + ms') (x.handlerPc + 1) (L.set i none) [] σ1) ∨ (decode μ.2.1 x.handlerPc = .ok (.astore i, 2) ∧ WW X g μ.2.2.1 Z (kc + mc') (ks + ms') (x.handlerPc + 2) (L.set i none) [] σ1)) (hi : i < L.length) (ok : okS L i = true) : WW X g μ.2.2.1 Z kc ks pc L st0 σ := by
  obtain ⟨p, l, e, R, s, m, args, below, meth, c⟩ := X
  obtain ⟨hl0, hx, hb, hml, hr, hlk, hnm, hown, hts, hK, hSw, hB, hR1, hR2, hR3, hR4⟩ := b
  intro H locs ls hP hS hL
  subst hl0 hst
  have hi2 : i < μ.2.2.1 := by rw [← hL.2.1]; exact hi
  obtain ⟨a1, a2, a3, T, N, a4⟩ := lk
  have hrun := vx_runV (g := F0 m pc ls ((vs.reverse ++ .ref q :: st).map (cv g))) (As := vs.map (cv g)) (rest := st.map (cv g)) (b := gB g + q) (C := μ'.1.cls) (H := H) (locs := locs) (below := below) (meth := meth) (e := e) (cells := kc) (slots := ks) ⟨hx, hb, hml, hown, hts⟩ hM ⟨a1.of hts hdd hR1 hR2, hts _ a2, hts _ a3⟩ ⟨Pm_blind _ _ _, va_recv hK.1 hP.2.2 a4 (hP.at hc (neO a4)), fun U hU hW => Pm_at (vs := .ref q :: vs) hP hS hK hSw hB hU hW⟩ rfl (by rw [List.length_map]; exact hn) hL.1 (by simp [cv]) (by show 2 * 0 + _ ≤ 8; rw [cv_cats]; omega) hd ⟨by omega, by omega⟩
  intro T0 hT0 X0
  rcases hrun T0 hT0 X0 with ⟨v, st₀, t, T', L', h0, X', hL', e1, e2, hf, stp⟩ | ⟨q9, st₀, t, T', L', E', ce0, h0, X', hL', e1, e2, ⟨rfl, hr1, hz, hk⟩, hce, hcv, hcl, stp⟩
  · exact absurd hf id
  · rw [h0] at hz hk
    have hS' : va_S (gF g) s.heap T'.heap (locs ++ L') := ⟨Nat.le_trans hS.1 (by rw [e1]; exact hz), fun q h1 h2 => by rw [e1, hk q (Nat.lt_of_lt_of_le h1 hS.1) h2]; exact hS.2.1 q h1 h2, fun q hq => by
      rcases List.mem_append.mp hq with h | h
      · exact hS.2.2 q h
      · exact hL' q h⟩
    have hr2 : RH g σ1 T'.heap := by rw [e1]; exact hr1
    have hW9 : W p l e R s m args below meth c T'.heap (locs ++ L') (kc + mc') (ks + ms') Z (F0 m x.handlerPc ls [.ref q9]) := by
      rcases hia with ⟨k, hk1, hk2, kk⟩ | ⟨hk2, kk⟩
      · exact lv_astore_n hx hb hk2 hk1 hL.has hi2 rfl (fun ls2 h2 => kk T'.heap _ ls2 hr2 hS' (hL.setN hi2 ok h2))
      · exact lv_astore hx hb hk2 hL.has hi2 rfl (fun ls2 h2 => kk T'.heap _ ls2 hr2 hS' (hL.setN hi2 ok h2))
    obtain ⟨t2, b1, b2⟩ := vx_catch (rest := st.map (cv g)) hown pre x suf htb (fun z hz => (hpass z hz).imp id (fun y => by
      obtain ⟨y1, nm, y2, y3, y4⟩ := y
      subst y3; subst y4
      exact ⟨y1, _, hts _ y2, hK.2.2.2.2.2.2.2⟩)) hx9 h09 (hts _ hlink) (va_Nw.use (A := args) (cdW_ok _ hcast).2 (hK.2.2.2.2.2.2.1 _ hcast)) (by rw [e1]; exact hce) hcv hcl hW9 T' rfl X'
    exact ⟨t2, stp.trans b1, b2⟩
def LHV (own : String) (idx n ci : Nat) (μ' : Md) (hh : List (Nat × Nat × Nat × Nat)) : Prop := Cond.methodLink own idx μ'.1 ∈ gw ∧ Cond.codeWith μ'.1 μ'.2.1 μ'.2.2.1 μ'.2.2.2 hh ∈ gw ∧ Cond.initialized μ'.1.cls ∈ gw ∧ (μ'.1.cls ≠ "java/lang/invoke/MethodHandle" ∧ μ'.1.cls ≠ "java/lang/invoke/VarHandle" ∧ (parseMethodDescriptor μ'.1.desc).map (fun d => d.parameters.length) = some n) ∧ μ'.2.2.1 ≤ 21 ∧ Cond.instanceMethod μ'.1 ∈ gw ∧ Cond.selects μ'.1.cls μ'.1 μ'.1 ∈ gw ∧ ∃ T N, kcls[ci]? = some (μ'.1.cls, T, N)
def LHS (own : String) (idx n : Nat) (μ' : Md) (hh : List (Nat × Nat × Nat × Nat)) : Prop := Cond.methodLink own idx μ'.1 ∈ gw ∧ Cond.codeWith μ'.1 μ'.2.1 μ'.2.2.1 μ'.2.2.2 hh ∈ gw ∧ Cond.initialized μ'.1.cls ∈ gw ∧ (μ'.1.cls ≠ "java/lang/invoke/MethodHandle" ∧ μ'.1.cls ≠ "java/lang/invoke/VarHandle" ∧ (parseMethodDescriptor μ'.1.desc).map (fun d => d.parameters.length) = some n) ∧ μ'.2.2.1 ≤ 21 ∧ Cond.static μ'.1 ∈ gw
theorem wsh_good {μ' : Md} {hh : List (Nat × Nat × Nat × Nat)} (h : Cond.codeWith μ'.1 μ'.2.1 μ'.2.2.1 μ'.2.2.2 hh ∈ gw) : GoodIn gw (wsh μ' hh) := by
  intro w hw
  rcases List.mem_cons.mp hw with rfl | hw
  · exact ⟨h, gw_good h⟩
  · exact ⟨hw, gw_good hw⟩
theorem w_callVH {idx n ci d' mc' ms' q : Nat} {μ' : Md} {hh : List (Nat × Nat × Nat × Nat)} {fs vs : List Value} {Q' : Option Value → Sg → Prop} {st0 : List Value} (b : BX X l0 g μ d mc ms) (hd : decode μ.2.1 pc = .ok (.invokevirtual idx, 3)) (lk : LHV μ.1.cls idx n ci μ' hh) (hst : st0 = vs.reverse ++ .ref q :: st) (hn : vs.length = n) (hc : σ.1 q = .inr (ci, fs)) (hw : (st.map fun v => v.category).sum ≤ 8) (hdd : d' + 1 ≤ d) (hkc : kc + mc' ≤ mc) (hks : ks + ms' ≤ ms) (hM : MH l0 g d' μ' hh σ (.ref q :: vs) mc' ms' Q')
    (kk : ∀ (r : Option Value) (σ' : Sg), Q' r σ' → WW X g μ.2.2.1 Z (kc + mc') (ks + ms') (pc + 3) L (r.toList ++ st) σ') : WW X g μ.2.2.1 Z kc ks pc L st0 σ := by
  obtain ⟨p, l, e, R, s, m, args, below, meth, c⟩ := X
  obtain ⟨hl0, hx, hb, hml, hr, hlk, hnm, hown, hts, hK, hSw, hB, hR1, hR2, hR3, hR4⟩ := b
  intro H locs ls hP hS hL
  subst hl0 hst
  obtain ⟨a1, a2, a3, a5, a6, a7, a8, T, N, a4⟩ := lk
  have hcw : vx_CVW R s args μ.1.cls μ'.1.cls idx μ'.1 μ'.2.1 μ'.2.2.1 μ'.2.2.2 hh (wsh μ' hh) (rmm d' mc' ms') mc' ms' n := ⟨⟨rfl, rfl, by show d' + 1 ≤ _; omega, by show 8 + (_ + 11) + 40 * d' ≤ _; omega, pay_in hts (wsh_good a2), List.mem_cons_self⟩, hts _ a2, hts _ a3, ⟨a5.1, a5.2.1⟩, fun sig h => by
    have h2 := a5.2.2
    rw [h] at h2
    exact (Option.some.inj h2).symm, hts _ a1, hts _ a7, hts _ a8⟩
  have hrun := vx_runVW (g := F0 m pc ls ((vs.reverse ++ .ref q :: st).map (cv g))) (As := vs.map (cv g)) (rest := st.map (cv g)) (b := gB g + q) (C := μ'.1.cls) (H := H) (locs := locs) (below := below) (meth := meth) (e := e) (cells := kc) (slots := ks) ⟨hx, hb, hml, hown, hts⟩ hM hcw ⟨Pm_blind _ _ _, va_recv hK.1 hP.2.2 a4 (hP.at hc (neO a4)), fun U hU hW => Pm_at (vs := .ref q :: vs) hP hS hK hSw hB hU hW⟩ rfl (by rw [List.length_map]; exact hn) hL.1 (by simp [cv]) (by show 2 * 0 + _ ≤ 8; rw [cv_cats]; omega) hd ⟨by omega, by omega⟩
  exact ww_run hrun hS hL kk
theorem w_callSH {idx n d' mc' ms' : Nat} {μ' : Md} {hh : List (Nat × Nat × Nat × Nat)} {vs : List Value} {Q' : Option Value → Sg → Prop} {st0 : List Value} (b : BX X l0 g μ d mc ms) (hd : decode μ.2.1 pc = .ok (.invokestatic idx, 3)) (lk : LHS μ.1.cls idx n μ' hh) (hst : st0 = vs.reverse ++ st) (hn : vs.length = n) (hw : (st.map fun v => v.category).sum ≤ 8) (hdd : d' + 1 ≤ d) (hkc : kc + mc' ≤ mc) (hks : ks + ms' ≤ ms) (hM : MH l0 g d' μ' hh σ vs mc' ms' Q')
    (kk : ∀ (r : Option Value) (σ' : Sg), Q' r σ' → WW X g μ.2.2.1 Z (kc + mc') (ks + ms') (pc + 3) L (r.toList ++ st) σ') : WW X g μ.2.2.1 Z kc ks pc L st0 σ := by
  obtain ⟨p, l, e, R, s, m, args, below, meth, c⟩ := X
  obtain ⟨hl0, hx, hb, hml, hr, hlk, hnm, hown, hts, hK, hSw, hB, hR1, hR2, hR3, hR4⟩ := b
  intro H locs ls hP hS hL
  subst hl0 hst
  obtain ⟨a1, a2, a3, a5, a6, a7⟩ := lk
  have hcw : vx_CSW R s args μ.1.cls idx μ'.1 μ'.2.1 μ'.2.2.1 μ'.2.2.2 hh (wsh μ' hh) (rmm d' mc' ms') mc' ms' n := ⟨⟨rfl, rfl, by show d' + 1 ≤ _; omega, by show 8 + (_ + 11) + 40 * d' ≤ _; omega, pay_in hts (wsh_good a2), List.mem_cons_self⟩, hts _ a2, hts _ a3, ⟨a5.1, a5.2.1⟩, fun sig h => by
    have h2 := a5.2.2
    rw [h] at h2
    exact (Option.some.inj h2).symm, hts _ a1, hts _ a7⟩
  have hrun := vx_runSW (g := F0 m pc ls ((vs.reverse ++ st).map (cv g))) (As := vs.map (cv g)) (rest := st.map (cv g)) (H := H) (locs := locs) (below := below) (meth := meth) (e := e) (cells := kc) (slots := ks) ⟨hx, hb, hml, hown, hts⟩ hM hcw ⟨Pm_blind _ _ _, fun U hU hW => Pm_at (vs := vs) hP hS hK hSw hB hU hW⟩ rfl (by rw [List.length_map]; exact hn) hL.1 (by simp) (by show 2 * 0 + _ ≤ 8; rw [cv_cats]; omega) hd ⟨by omega, by omega⟩
  exact ww_run hrun hS hL kk
end FWX
theorem tw_in {L : List Cond} (h : L.all (fun w => decide (w ∈ lw_tbl) && goodWord w) = true) : ∀ w ∈ L, w ∈ gw := gw_all h
theorem tw_cd1 : ∀ w ∈ (vx_atS RX5 32 isE exN).filter (fun w => !goodWord w), w ∈ cdW := fun w hw => List.mem_append_left _ (List.mem_filter.mpr ⟨List.mem_append_left _ (List.mem_filter.mp hw).1, (List.mem_filter.mp hw).2⟩)
theorem tw_cd2 : ∀ w ∈ (vx_atS RX8 268 iaE exN).filter (fun w => !goodWord w), w ∈ cdW := fun w hw => List.mem_append_left _ (List.mem_filter.mpr ⟨List.mem_append_right _ (List.mem_append_left _ (List.mem_filter.mp hw).1), (List.mem_filter.mp hw).2⟩)
theorem tw_cd3 : ∀ w ∈ (vx_atS RX8 281 isE exN).filter (fun w => !goodWord w), w ∈ cdW := fun w hw => List.mem_append_left _ (List.mem_filter.mpr ⟨List.mem_append_right _ (List.mem_append_right _ (List.mem_filter.mp hw).1), (List.mem_filter.mp hw).2⟩)
theorem twF : TW RX5 28 32 isE := ⟨lcX5_28, gw_at (i := 84) (by decide +kernel) rfl, tw_in (by decide +kernel), tw_cd1, by decide +kernel, by decide⟩
theorem twA : TW RX8 264 268 iaE := ⟨lcX8_264, gw_at (i := 83) (by decide +kernel) rfl, tw_in (by decide +kernel), tw_cd2, by decide +kernel, by decide⟩
theorem twS : TW RX8 277 281 isE := ⟨lcX8_277, gw_at (i := 84) (by decide +kernel) rfl, tw_in (by decide +kernel), tw_cd3, by decide +kernel, by decide⟩
theorem lhT : LHV RL 170 1 8 mX8_toss hhT := ⟨gw_at (i := 895) (by decide +kernel) rfl, gw_at (i := 898) (by decide +kernel) rfl, gw_at (i := 60) (by decide +kernel) rfl, ⟨by decide +kernel, by decide +kernel, by decide +kernel⟩, by decide, gw_at (i := 896) (by decide +kernel) rfl, gw_at (i := 897) (by decide +kernel) rfl, TX8, 5, rfl⟩
theorem lhE : LHS RL 154 4 mL_element hhE := ⟨gw_at (i := 973) (by decide +kernel) rfl, gw_at (i := 975) (by decide +kernel) rfl, gw_at (i := 59) (by decide +kernel) rfl, ⟨by decide +kernel, by decide +kernel, by decide +kernel⟩, by decide, gw_at (i := 974) (by decide +kernel) rfl⟩
