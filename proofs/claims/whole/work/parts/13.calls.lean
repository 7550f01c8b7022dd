/-! RULES: what is made, calls, the start of a body -/
section FWD
variable {X : Cx} {l0 : Launch} {g : Gw} {μ : Md} {d mc ms : Nat} {Z : State → Prop} {kc ks pc : Nat} {L : List (Option Value)} {st : List Value} {σ : Sg}
theorem al_fin {s : State} {H H1 : Heap} {locs : List Loc} {c1 : va_E} (hP : RH g σ H) (hS : va_S (gF g) s.heap H locs) (he : va_at (gD g) kcls (gB g + σ.2, ce g c1) H1) (hz : H1.size = H.size + 1) (oq : ∀ x : Nat, x < H.size → H1[x]? = H[x]?) :
    RH g (va_up σ.1 σ.2 c1, σ.2 + 1) H1 ∧ va_S (gF g) s.heap H1 locs := by
  refine ⟨hP.push c1 hz ((hP.2.2.kept (fun k x hx => oq x.1 ((hP.2.2 k x hx).lt))).app (fun k x hx => ?_)), ⟨Nat.le_trans hS.1 (by omega), fun x h1 h2 => (oq x (Nat.lt_of_lt_of_le h1 hS.1)).trans (hS.2.1 x h1 h2), hS.2.2⟩⟩
  have hk : k < 1 := (List.getElem?_eq_some_iff.mp hx).1
  rw [show k = 0 by omega] at hx
  cases hx
  exact he
/-- own's entry idx names the class ci, which can be made: its blank fields fs0 -/
def GN (own : String) (idx ci : Nat) (fs0 : List Value) : Prop := ∃ (C : String) (T : u_T) (N : Nat) (ty0 : Nat → FieldType), kcls[ci]? = some (C, T, N) ∧ (∀ w ∈ u_ws C T N, w ∈ gw) ∧ (∀ k, k < N → parseFieldDescriptor (T k).2.2.1 = some (ty0 k)) ∧ Cond.classLink own idx C ∈ gw ∧ Cond.instantiable C N ∈ gw ∧ Cond.initialized C ∈ gw ∧ N = fs0.length ∧ (∀ g : Gw, ∀ j, j < N → defaultValue (ty0 j) = vp_V (fs0.map (cv g)) j)
theorem w_new {idx ci : Nat} {fs0 : List Value} (b : BX X l0 g μ d mc ms) (hd : decode μ.2.1 pc = .ok (.new idx, 3)) (lk : GN μ.1.cls idx ci fs0) (hkc : kc + 1 ≤ mc) (hks : ks + fs0.length ≤ ms)
    (kk : WW X g μ.2.2.1 Z (kc + 1) (ks + fs0.length) (pc + 3) L (.ref σ.2 :: st) (va_up σ.1 σ.2 (.inr (ci, fs0)), σ.2 + 1)) : WW X g μ.2.2.1 Z kc ks pc L st σ := by
  obtain ⟨p, l, e, R, s, m, args, below, meth, c⟩ := X
  obtain ⟨hl0, hx, hb, hml, hr, hlk, hnm, hown, hts, hK, hSw, hB, hR1, hR2, hR3, hR4⟩ := b
  intro H locs ls hP hS hL
  obtain ⟨C, T, N, ty0, h1, h2, h3, h4, h5, h6, h7, h8⟩ := lk
  subst h7
  have hKn := hK.1.1 ci _ h1
  refine W.newcK hx hb hown (hts _ h4) (hts _ h5) (hts _ h6) rfl hd (by omega) (by omega) hKn.2.1 rfl fun H1 kC hkC e1 z1 o1 => ?_
  obtain ⟨r1, r2⟩ := al_fin (c1 := .inr (ci, fs0)) hP hS (by
    refine ⟨_, h1, ?_⟩
    rw [hP.1] at e1
    exact (u_born ty0 hts h2 hKn hkC e1 h3).to (h8 g)) z1 o1
  have k1 := kk H1 locs ls r1 r2 hL
  refine W.eq ?_ k1
  show F0 m (pc + 3) ls (.ref H.size :: st.map (cv g)) = F0 m (pc + 3) ls (.ref (gB g + σ.2) :: st.map (cv g))
  rw [hP.1]
def arT : Nat → ArrayType × FieldType := fun t => match t with
  | 0 => (.int, .int)
  | 1 => (.byte, .byte)
  | 2 => (.short, .short)
  | _ => (.long, .long)
theorem w_newa {t : Nat} {n : Int32} {N : Nat} {a0 : (Nat → Int32) ⊕ (Nat → Int64) ⊕ (Nat → UInt32) ⊕ (Nat → UInt64) ⊕ (Nat → Option Nat)} (b : BX X l0 g μ d mc ms) (hd : decode μ.2.1 pc = .ok (.newarray (arT t).1, 2)) (hw : Cond.arrayClass (arT t).2 ∈ gw) (ht : t < 4) (ha : a0 = if t = 3 then .inr (.inl (fun _ => 0)) else .inl (fun _ => 0)) (hn : ¬ n < 0) (hN : n.toNatClampNeg = N) (hb8 : N ≤ 67108864) (hkc : kc + 1 ≤ mc) (hks : ks + N ≤ ms)
    (kk : WW X g μ.2.2.1 Z (kc + 1) (ks + N) (pc + 2) L (.ref σ.2 :: st) (va_up σ.1 σ.2 (.inl (t, N, a0)), σ.2 + 1)) : WW X g μ.2.2.1 Z kc ks pc L (.int n :: st) σ := by
  obtain ⟨p, l, e, R, s, m, args, below, meth, c⟩ := X
  obtain ⟨hl0, hx, hb, hml, hr, hlk, hnm, hown, hts, hK, hSw, hB, hR1, hR2, hR3, hR4⟩ := b
  intro H locs ls hP hS hL
  have hty : newarray.typeOf (arT t).1 = (arT t).2 := by
    rcases (show t = 0 ∨ t = 1 ∨ t = 2 ∨ t = 3 by omega) with rfl | rfl | rfl | rfl <;> rfl
  have hcb : componentBytes (arT t).2 ≤ 8 := by
    rcases (show t = 0 ∨ t = 1 ∨ t = 2 ∨ t = 3 by omega) with rfl | rfl | rfl | rfl <;> decide
  have hbytes : N * componentBytes (newarray.typeOf (arT t).1) ≤ 536870912 := by
    rw [hty]
    exact Nat.le_trans (Nat.mul_le_mul hb8 hcb) (by decide)
  refine va_newaK hx hb (by rw [hty]; exact hts _ hw) rfl hd rfl hn hN hbytes (by omega) (by omega) rfl fun H1 cA e1 z1 o1 hAr hNm => ?_
  rw [hty] at e1 hNm
  have hcA : cA = gA g t := by
    have h1 : s.vm.findClass ("[" ++ ((arT t).2).toString) = some (gA g t) := by
      rcases (show t = 0 ∨ t = 1 ∨ t = 2 ∨ t = 3 by omega) with rfl | rfl | rfl | rfl
      · exact (hK.1.2 0 _ rfl).2
      · exact (hK.1.2 1 _ rfl).2
      · exact (hK.1.2 2 _ rfl).2
      · exact (hK.1.2 3 _ rfl).2
    exact Option.some.inj (hNm.symm.trans h1)
  subst hcA
  obtain ⟨r1, r2⟩ := al_fin (c1 := .inl (t, N, a0)) hP hS (by
    rw [hP.1] at e1
    show va_at _ _ (gB g + σ.2, ce g (.inl (t, N, a0))) H1
    rw [ha]
    rcases (show t = 0 ∨ t = 1 ∨ t = 2 ∨ t = 3 by omega) with rfl | rfl | rfl | rfl <;> exact e1) z1 o1
  have k1 := kk H1 locs ls r1 r2 hL
  refine W.eq ?_ k1
  show F0 m (pc + 2) ls (.ref H.size :: st.map (cv g)) = F0 m (pc + 2) ls (.ref (gB g + σ.2) :: st.map (cv g))
  rw [hP.1]
theorem aoN_in : ∀ t, 4 ≤ t → t < 8 → aoN t ∈ aoC := by
  intro t h1 h2
  rcases (show t = 4 ∨ t = 5 ∨ t = 6 ∨ t = 7 by omega) with rfl | rfl | rfl | rfl <;> decide
theorem w_anew {idx t : Nat} {n : Int32} {N : Nat} (b : BX X l0 g μ d mc ms) (hd : decode μ.2.1 pc = .ok (.anewarray idx, 3)) (hw : Cond.classLink μ.1.cls idx (aoN t) ∈ gw) (ht : 4 ≤ t ∧ t < 8) (hn : ¬ n < 0) (hN : n.toNatClampNeg = N) (hb8 : N ≤ 67108864) (hkc : kc + 1 ≤ mc) (hks : ks + N ≤ ms)
    (kk : WW X g μ.2.2.1 Z (kc + 1) (ks + N) (pc + 3) L (.ref σ.2 :: st) (va_up σ.1 σ.2 (.inl (t, N, .inr (.inr (.inr (.inr (fun _ => none)))))), σ.2 + 1)) : WW X g μ.2.2.1 Z kc ks pc L (.int n :: st) σ := by
  obtain ⟨p, l, e, R, s, m, args, below, meth, c⟩ := X
  obtain ⟨hl0, hx, hb, hml, hr, hlk, hnm, hown, hts, hK, hSw, hB, hR1, hR2, hR3, hR4⟩ := b
  intro H locs ls hP hS hL
  subst hN
  refine W.anew hx hb hown (hts _ hw) (va_AO.use (hK.2.2.1 _ (aoN_in t ht.1 ht.2))) rfl hd rfl hn (by omega) (by omega) (by omega) fun cA kA comp f1 f2 f3 f4 => ?_
  have hcA : cA = gA g t := by
    obtain ⟨_, _, _, _, _, h1⟩ := (hK.1.2 t _ (aoN_ty g t ht.1 ht.2)).2
    exact Option.some.inj (f1.symm.trans h1)
  subst hcA
  generalize hH1 : H.push ({ cls := gA g t, slots := Array.replicate n.toNatClampNeg .null, vm := .none } : Cell) = H1
  have z1 : H1.size = H.size + 1 := by rw [← hH1, Array.size_push]
  have e1 : H1[H.size]? = some (arrV (gA g t) n.toNatClampNeg (fun _ => .null)) := by rw [← hH1, Array.getElem?_push_size, ← arrV_new]
  have o1 : ∀ q : Nat, q < H.size → H1[q]? = H[q]? := fun q hq => by rw [← hH1, Array.getElem?_push, if_neg (Nat.ne_of_lt hq)]
  obtain ⟨r1, r2⟩ := al_fin (c1 := .inl (t, n.toNatClampNeg, .inr (.inr (.inr (.inr (fun _ => none)))))) hP hS (by
    rw [hP.1] at e1
    exact e1) z1 o1
  have k1 := kk H1 locs ls r1 r2 hL
  refine W.eq ?_ k1
  show F0 m (pc + 3) ls (.ref H.size :: st.map (cv g)) = F0 m (pc + 3) ls (.ref (gB g + σ.2) :: st.map (cv g))
  rw [hP.1]
theorem w_getsE {idx : Nat} (b : BX X l0 g μ d mc ms) (hd : decode μ.2.1 pc = .ok (.getstatic idx, 3)) (hw : Cond.fieldLink μ.1.cls idx "java/util/ArrayList" "DEFAULTCAPACITY_EMPTY_ELEMENTDATA" "[Ljava/lang/Object;" ∈ gw)
    (kk : WW X g μ.2.2.1 Z kc ks (pc + 3) L (.float 0 :: st) σ) : WW X g μ.2.2.1 Z kc ks pc L st σ := by
  obtain ⟨p, l, e, R, s, m, args, below, meth, c⟩ := X
  obtain ⟨hl0, hx, hb, hml, hr, hlk, hnm, hown, hts, hK, hSw, hB, hR1, hR2, hR3, hR4⟩ := b
  intro H locs ls hP hS hL
  exact va_gets hx hb hSw.1 hS hown (hts _ hw) (fun _ h => h) hd (kk H locs ls hP hS hL)
theorem w_acmp_eqE {q : Nat} {off : Int} (b : BX X l0 g μ d mc ms) (hd : decode μ.2.1 pc = .ok (.if_acmp .eq off, 3)) {tgt : Nat} (ht : (pc : Int) + off = (tgt : Int))
    (kk : WW X g μ.2.2.1 Z kc ks tgt L st σ) : WW X g μ.2.2.1 Z kc ks pc L (.float q.toUInt32 :: .float q.toUInt32 :: st) σ := by
  obtain ⟨p, l, e, R, s, m, args, below, meth, c⟩ := X
  obtain ⟨hl0, hx, hb, hml, hr, hlk, hnm, hown, hts, hK, hSw, hB, hR1, hR2, hR3, hR4⟩ := b
  intro H locs ls hP hS hL
  exact lv_acmp_eq (rx := some _) (ry := some _) hx hb hd ht (fun _ => kk H locs ls hP hS hL) (fun z => absurd rfl z)
theorem w_castS {idx ci q : Nat} {fs : List Value} {C : String} {T : u_T} {N : Nat} (b : BX X l0 g μ d mc ms) (hd : decode μ.2.1 pc = .ok (.checkcast idx, 3)) (hC : kcls[ci]? = some (C, T, N)) (hw : Cond.classLink μ.1.cls idx C ∈ gw) (hc : σ.1 q = .inr (ci, fs))
    (kk : WW X g μ.2.2.1 Z kc ks (pc + 3) L (.ref q :: st) σ) : WW X g μ.2.2.1 Z kc ks pc L (.ref q :: st) σ := by
  obtain ⟨p, l, e, R, s, m, args, below, meth, c⟩ := X
  obtain ⟨hl0, hx, hb, hml, hr, hlk, hnm, hown, hts, hK, hSw, hB, hR1, hR2, hR3, hR4⟩ := b
  intro H locs ls hP hS hL
  exact va_castS hx hb hown (hts _ hw) (hK.1.1 ci _ hC).2 (va_recv hK.1 hP.2.2 hC (hP.at hc (neO hC))) hd (kk H locs ls hP hS hL)
/-! calls -/
theorem gw_good {w : Cond} (h : w ∈ gw) : (w.onTables && w.keeps) = true ∨ ∃ ty, w = .arrayClass ty := good_of_word (List.mem_filter.mp h).2
theorem gw_in {μ' : Md} (h : Cond.code μ'.1 μ'.2.1 μ'.2.2.1 μ'.2.2.2 ∈ gw) : GoodIn gw (wsm μ') := by
  intro w hw
  rcases List.mem_cons.mp hw with rfl | hw
  · exact ⟨h, gw_good h⟩
  · exact ⟨hw, gw_good hw⟩
theorem Pm_blind (g : Gw) (σ : Sg) (vs : List Value) : FrameBlind (Pm g σ vs) := by
  rintro a U gg mk ⟨h1, h2, h3, h4⟩
  exact ⟨h1, h2, KW.same (s := U) (U := U.calling gg mk a) rfl h3, SW.moved (s := U) (H0 := U.heap) (U := U.calling gg mk a) (Vm.Alike.refl U.vm) (fun _ _ _ => rfl) (by rw [h2.1]; omega) h4⟩
theorem Pm_at {s U : State} {H : Heap} {locs : List Loc} {vs : List Value} (hP : RH g σ H) (hS : va_S (gF g) s.heap H locs) (hK : KW g s) (hSw : SW g s s.heap) (hB : gB g ≤ s.heap.size) (hU : U.heap = H) (hW : s.WarmedH U.vm) : Pm g σ vs (vs.map (cv g)).toArray U :=
  ⟨rfl, by rw [hU]; exact hP, hK.warm hW, by rw [hU]; exact SW.moved hW.alike hS.2.1 hB hSw⟩
theorem ww_run {p : Program} {l : Launch} {e : Env} {R : Room} {s : State} {m : MethodId} {args : Array Value} {below : List Frame} {meth : Method} {c : Code} {H : Heap} {locs : List Loc} {ls : Array Slot} {a : Array Value} {mc' ms' : Nat} {Q' : Option Value → Sg → Prop} {st0 : List Value} {nL : Nat}
    (hr : va_Run p l e R s m args below meth c H locs kc ks mc' ms' (F0 m pc ls st0) (st.map (cv g)) (Qm g Q' a) (gF g)) (hS : va_S (gF g) s.heap H locs) (hL : LH g ls nL L)
    (kk : ∀ (r : Option Value) (σ' : Sg), Q' r σ' → WW (p, l, e, R, s, m, args, below, meth, c) g nL Z (kc + mc') (ks + ms') (pc + 3) L (r.toList ++ st) σ') : W p l e R s m args below meth c H locs kc ks Z (F0 m pc ls st0) := by
  intro T hT X
  obtain ⟨v, st₀, t, T', L', h0, X', hL', e1, e2, ⟨⟨r, σ', hv, hq, hp⟩, hz, hk⟩, stp⟩ := hr T hT X
  cases hv
  rw [h0] at hz hk
  have k1 := kk r σ' hq T'.heap (locs ++ L') ls (by rw [e1]; exact hp) ⟨Nat.le_trans hS.1 (by rw [e1]; exact hz), fun q h1 h2 => by rw [e1, hk q (Nat.lt_of_lt_of_le h1 hS.1) h2]; exact hS.2.1 q h1 h2, fun q hq => by
      rcases List.mem_append.mp hq with h | h
      · exact hS.2.2 q h
      · exact hL' q h⟩ hL
  obtain ⟨t2, a1, b1⟩ := k1 T' rfl X'
  refine ⟨t2, stp t2 ?_, b1⟩
  have e3 : (r.toList ++ st).map (cv g) = (r.map (cv g)).toList ++ st.map (cv g) := by cases r <;> simp
  rw [e3] at a1
  exact a1
/-- what a call asks of the callee's name: common -/
def LB (own : String) (idx n : Nat) (μ' : Md) : Prop := Cond.methodLink own idx μ'.1 ∈ gw ∧ Cond.code μ'.1 μ'.2.1 μ'.2.2.1 μ'.2.2.2 ∈ gw ∧ Cond.initialized μ'.1.cls ∈ gw ∧ (μ'.1.cls ≠ "java/lang/invoke/MethodHandle" ∧ μ'.1.cls ≠ "java/lang/invoke/VarHandle" ∧ (parseMethodDescriptor μ'.1.desc).map (fun d => d.parameters.length) = some n) ∧ μ'.2.2.1 ≤ 21
def LV (own : String) (idx n ci : Nat) (μ' : Md) : Prop := LB own idx n μ' ∧ Cond.instanceMethod μ'.1 ∈ gw ∧ Cond.selects μ'.1.cls μ'.1 μ'.1 ∈ gw ∧ ∃ T N, kcls[ci]? = some (μ'.1.cls, T, N)
def LSt (own : String) (idx n : Nat) (μ' : Md) : Prop := LB own idx n μ' ∧ Cond.static μ'.1 ∈ gw
def LI (own : String) (idx n : Nat) (μ' : Md) : Prop := LB own idx n μ' ∧ Cond.instanceMethod μ'.1 ∈ gw ∧ μ'.1.name = "<init>" ∧ μ'.2.2.2 = none
def LN (own : String) (idx n : Nat) (μ' : Md) : Prop := Cond.methodLinkNest own idx μ'.1 RX8 ∈ nestW ∧ Cond.code μ'.1 μ'.2.1 μ'.2.2.1 μ'.2.2.2 ∈ gw ∧ Cond.initialized μ'.1.cls ∈ gw ∧ (μ'.1.cls ≠ "java/lang/invoke/MethodHandle" ∧ μ'.1.cls ≠ "java/lang/invoke/VarHandle" ∧ (parseMethodDescriptor μ'.1.desc).map (fun d => d.parameters.length) = some n) ∧ μ'.2.2.1 ≤ 21
theorem LB.of {own : String} {idx n d' mc' ms' : Nat} {μ' : Md} {R : Room} {s : State} {args : Array Value} (h : LB own idx n μ') (hts : ∀ w ∈ gw, w.before args s = true) (hd : d' + 1 ≤ d) (h1 : d ≤ R.frames) (h2 : 40 * d ≤ R.locals) : CallB R s args own idx μ'.1 μ'.2.1 μ'.2.2.1 μ'.2.2.2 (wsm μ') (rmm d' mc' ms') mc' ms' n := by
  obtain ⟨a1, a2, a3, a4, a5⟩ := h
  exact callB_of n hts (gw_in a2) rfl rfl rfl (hts _ a3) (hts _ a1) a4 ⟨by show d' + 1 ≤ _; omega, by show 8 + (_ + 11) + 40 * d' ≤ _; omega⟩
theorem w_callV {idx n ci d' mc' ms' q : Nat} {μ' : Md} {fs vs : List Value} {Q' : Option Value → Sg → Prop} {st0 : List Value} (b : BX X l0 g μ d mc ms) (hd : decode μ.2.1 pc = .ok (.invokevirtual idx, 3)) (lk : LV μ.1.cls idx n ci μ') (hst : st0 = vs.reverse ++ .ref q :: st) (hn : vs.length = n) (hc : σ.1 q = .inr (ci, fs)) (hw : (st.map fun v => v.category).sum ≤ 8) (hdd : d' + 1 ≤ d) (hkc : kc + mc' ≤ mc) (hks : ks + ms' ≤ ms) (hM : MM l0 g d' μ' σ (.ref q :: vs) mc' ms' Q')
    (kk : ∀ (r : Option Value) (σ' : Sg), Q' r σ' → WW X g μ.2.2.1 Z (kc + mc') (ks + ms') (pc + 3) L (r.toList ++ st) σ') : WW X g μ.2.2.1 Z kc ks pc L st0 σ := by
  obtain ⟨p, l, e, R, s, m, args, below, meth, c⟩ := X
  obtain ⟨hl0, hx, hb, hml, hr, hlk, hnm, hown, hts, hK, hSw, hB, hR1, hR2, hR3, hR4⟩ := b
  intro H locs ls hP hS hL
  subst hl0 hst
  obtain ⟨a1, a2, a3, T, N, a4⟩ := lk
  have hrun := va_runV (g := F0 m pc ls ((vs.reverse ++ .ref q :: st).map (cv g))) (As := vs.map (cv g)) (rest := st.map (cv g)) (b := gB g + q) (C := μ'.1.cls) (H := H) (locs := locs) (below := below) (meth := meth) (e := e) (cells := kc) (slots := ks) ⟨hx, hb, hml, hown, hts⟩ hM ⟨a1.of hts hdd hR1 hR2, hts _ a2, hts _ a3⟩ ⟨Pm_blind _ _ _, va_recv hK.1 hP.2.2 a4 (hP.at hc (neO a4)), fun U hU hW => Pm_at (vs := .ref q :: vs) hP hS hK hSw hB hU hW⟩ rfl (by rw [List.length_map]; exact hn) hL.1 (by simp [cv]) (by show 2 * 0 + _ ≤ 8; rw [cv_cats]; omega) hd ⟨by omega, by omega⟩
  exact ww_run hrun hS hL kk
theorem w_callS {idx n d' mc' ms' : Nat} {μ' : Md} {vs : List Value} {Q' : Option Value → Sg → Prop} {st0 : List Value} (b : BX X l0 g μ d mc ms) (hd : decode μ.2.1 pc = .ok (.invokestatic idx, 3)) (lk : LSt μ.1.cls idx n μ') (hst : st0 = vs.reverse ++ st) (hn : vs.length = n) (hw : (st.map fun v => v.category).sum ≤ 8) (hdd : d' + 1 ≤ d) (hkc : kc + mc' ≤ mc) (hks : ks + ms' ≤ ms) (hM : MM l0 g d' μ' σ vs mc' ms' Q')
    (kk : ∀ (r : Option Value) (σ' : Sg), Q' r σ' → WW X g μ.2.2.1 Z (kc + mc') (ks + ms') (pc + 3) L (r.toList ++ st) σ') : WW X g μ.2.2.1 Z kc ks pc L st0 σ := by
  obtain ⟨p, l, e, R, s, m, args, below, meth, c⟩ := X
  obtain ⟨hl0, hx, hb, hml, hr, hlk, hnm, hown, hts, hK, hSw, hB, hR1, hR2, hR3, hR4⟩ := b
  intro H locs ls hP hS hL
  subst hl0 hst
  obtain ⟨a1, a2⟩ := lk
  have hrun := va_runS (g := F0 m pc ls ((vs.reverse ++ st).map (cv g))) (As := vs.map (cv g)) (rest := st.map (cv g)) (H := H) (locs := locs) (below := below) (meth := meth) (e := e) (cells := kc) (slots := ks) ⟨hx, hb, hml, hown, hts⟩ hM ⟨a1.of hts hdd hR1 hR2, hts _ a2⟩ ⟨Pm_blind _ _ _, fun U hU hW => Pm_at (vs := vs) hP hS hK hSw hB hU hW⟩ rfl (by rw [List.length_map]; exact hn) hL.1 (by simp) (by show 2 * 0 + _ ≤ 8; rw [cv_cats]; omega) hd ⟨by omega, by omega⟩
  exact ww_run hrun hS hL kk
theorem w_callI {idx n d' mc' ms' q : Nat} {μ' : Md} {vs : List Value} {Q' : Option Value → Sg → Prop} {st0 : List Value} (b : BX X l0 g μ d mc ms) (hd : decode μ.2.1 pc = .ok (.invokespecial idx, 3)) (lk : LI μ.1.cls idx n μ') (hst : st0 = vs.reverse ++ .ref q :: st) (hn : vs.length = n) (hw : (st.map fun v => v.category).sum ≤ 8) (hdd : d' + 1 ≤ d) (hkc : kc + mc' ≤ mc) (hks : ks + ms' ≤ ms) (hM : MM l0 g d' μ' σ (.ref q :: vs) mc' ms' Q')
    (kk : ∀ (r : Option Value) (σ' : Sg), Q' r σ' → WW X g μ.2.2.1 Z (kc + mc') (ks + ms') (pc + 3) L (r.toList ++ st) σ') : WW X g μ.2.2.1 Z kc ks pc L st0 σ := by
  obtain ⟨p, l, e, R, s, m, args, below, meth, c⟩ := X
  obtain ⟨hl0, hx, hb, hml, hr, hlk, hnm, hown, hts, hK, hSw, hB, hR1, hR2, hR3, hR4⟩ := b
  intro H locs ls hP hS hL
  subst hl0 hst
  obtain ⟨a1, a2, a3, a4⟩ := lk
  have cb := a1.of (d' := d') (mc' := mc') (ms' := ms') (d := d) (R := R) hts hdd hR1 hR2
  rw [a4] at cb
  have hrun := va_runI (g := F0 m pc ls ((vs.reverse ++ .ref q :: st).map (cv g))) (As := vs.map (cv g)) (rest := st.map (cv g)) (b := gB g + q) (H := H) (locs := locs) (below := below) (meth := meth) (e := e) (cells := kc) (slots := ks) ⟨hx, hb, hml, hown, hts⟩ hM ⟨cb, a3, hts _ a2⟩ ⟨Pm_blind _ _ _, fun U hU hW => Pm_at (vs := .ref q :: vs) hP hS hK hSw hB hU hW⟩ rfl (by rw [List.length_map]; exact hn) hL.1 (by simp [cv]) (by show 2 * 0 + _ ≤ 8; rw [cv_cats]; omega) hd ⟨by omega, by omega⟩
  exact ww_run hrun hS hL kk
theorem LN.of {own : String} {idx n d' mc' ms' : Nat} {μ' : Md} {R : Room} {s : State} {args : Array Value} (h : LN own idx n μ') (hts : ∀ w ∈ gw, w.before args s = true) (hK : KW g s) (hd : d' + 1 ≤ d) (h1 : d ≤ R.frames) (h2 : 40 * d ≤ R.locals) : va_CN R s args own idx μ'.1 RX8 μ'.2.1 μ'.2.2.1 μ'.2.2.2 (wsm μ') (rmm d' mc' ms') mc' ms' n := by
  obtain ⟨a1, a2, a3, a4, a5⟩ := h
  exact va_cnB n hts (gw_in a2) rfl rfl rfl (hK.2.1 _ a1) (hts _ a3) a4 ⟨by show d' + 1 ≤ _; omega, by show 8 + (_ + 11) + 40 * d' ≤ _; omega⟩
theorem w_callIN {idx n d' mc' ms' q : Nat} {μ' : Md} {vs : List Value} {Q' : Option Value → Sg → Prop} {st0 : List Value} (b : BX X l0 g μ d mc ms) (hd : decode μ.2.1 pc = .ok (.invokespecial idx, 3)) (lk : LN μ.1.cls idx n μ') (hins : Cond.instanceMethod μ'.1 ∈ gw) (hnm : μ'.1.name = "<init>") (hrn : μ'.2.2.2 = none) (hst : st0 = vs.reverse ++ .ref q :: st) (hn : vs.length = n) (hw : (st.map fun v => v.category).sum ≤ 8) (hdd : d' + 1 ≤ d) (hkc : kc + mc' ≤ mc) (hks : ks + ms' ≤ ms) (hM : MM l0 g d' μ' σ (.ref q :: vs) mc' ms' Q')
    (kk : ∀ (r : Option Value) (σ' : Sg), Q' r σ' → WW X g μ.2.2.1 Z (kc + mc') (ks + ms') (pc + 3) L (r.toList ++ st) σ') : WW X g μ.2.2.1 Z kc ks pc L st0 σ := by
  obtain ⟨p, l, e, R, s, m, args, below, meth, c⟩ := X
  obtain ⟨hl0, hx, hb, hml, hr, hlk, hnm2, hown, hts, hK, hSw, hB, hR1, hR2, hR3, hR4⟩ := b
  intro H locs ls hP hS hL
  subst hl0 hst
  have cb := lk.of (d' := d') (mc' := mc') (ms' := ms') (d := d) (R := R) hts hK hdd hR1 hR2
  rw [hrn] at cb
  have hrun := va_runIN (g := F0 m pc ls ((vs.reverse ++ .ref q :: st).map (cv g))) (As := vs.map (cv g)) (rest := st.map (cv g)) (b := gB g + q) (H := H) (locs := locs) (below := below) (meth := meth) (e := e) (cells := kc) (slots := ks) ⟨hx, hb, hml, hown, hts⟩ hM ⟨cb, hnm, hts _ hins⟩ ⟨Pm_blind _ _ _, fun U hU hW => Pm_at (vs := .ref q :: vs) hP hS hK hSw hB hU hW⟩ rfl (by rw [List.length_map]; exact hn) hL.1 (by simp [cv]) (by show 2 * 0 + _ ≤ 8; rw [cv_cats]; omega) hd ⟨by omega, by omega⟩
  exact ww_run hrun hS hL kk
theorem w_callSN {idx n d' mc' ms' : Nat} {μ' : Md} {vs : List Value} {Q' : Option Value → Sg → Prop} {st0 : List Value} (b : BX X l0 g μ d mc ms) (hd : decode μ.2.1 pc = .ok (.invokestatic idx, 3)) (lk : LN μ.1.cls idx n μ') (hsta : Cond.static μ'.1 ∈ gw) (hst : st0 = vs.reverse ++ st) (hn : vs.length = n) (hw : (st.map fun v => v.category).sum ≤ 8) (hdd : d' + 1 ≤ d) (hkc : kc + mc' ≤ mc) (hks : ks + ms' ≤ ms) (hM : MM l0 g d' μ' σ vs mc' ms' Q')
    (kk : ∀ (r : Option Value) (σ' : Sg), Q' r σ' → WW X g μ.2.2.1 Z (kc + mc') (ks + ms') (pc + 3) L (r.toList ++ st) σ') : WW X g μ.2.2.1 Z kc ks pc L st0 σ := by
  obtain ⟨p, l, e, R, s, m, args, below, meth, c⟩ := X
  obtain ⟨hl0, hx, hb, hml, hr, hlk, hnm2, hown, hts, hK, hSw, hB, hR1, hR2, hR3, hR4⟩ := b
  intro H locs ls hP hS hL
  subst hl0 hst
  have cb := lk.of (d' := d') (mc' := mc') (ms' := ms') (d := d) (R := R) hts hK hdd hR1 hR2
  have hrun := va_runSN (g := F0 m pc ls ((vs.reverse ++ st).map (cv g))) (As := vs.map (cv g)) (rest := st.map (cv g)) (H := H) (locs := locs) (below := below) (meth := meth) (e := e) (cells := kc) (slots := ks) ⟨hx, hb, hml, hown, hts⟩ hM ⟨cb, hts _ hsta, trivial⟩ ⟨Pm_blind _ _ _, fun U hU hW => Pm_at (vs := vs) hP hS hK hSw hB hU hW⟩ rfl (by rw [List.length_map]; exact hn) hL.1 (by simp) (by show 2 * 0 + _ ≤ 8; rw [cv_cats]; omega) hd ⟨by omega, by omega⟩
  exact ww_run hrun hS hL kk
theorem w_objInit {idx q : Nat} (b : BX X l0 g μ d mc ms) (hd : decode μ.2.1 pc = .ok (.invokespecial idx, 3)) (hw : Cond.methodLink μ.1.cls idx objectInit ∈ gw) (hi : Cond.instanceMethod objectInit ∈ gw) (hc : Cond.code objectInit ⟨#[0xb1]⟩ 1 none ∈ gw) (hw8 : (st.map fun v => v.category).sum ≤ 8) (hdd : 1 ≤ d)
    (kk : WW X g μ.2.2.1 Z kc ks (pc + 3) L st σ) : WW X g μ.2.2.1 Z kc ks pc L (.ref q :: st) σ := by
  obtain ⟨p, l, e, R, s, m, args, below, meth, c⟩ := X
  obtain ⟨hl0, hx, hb, hml, hr, hlk, hnm2, hown, hts, hK, hSw, hB, hR1, hR2, hR3, hR4⟩ := b
  intro H locs ls hP hS hL
  exact W.objInit hx hb hown (hts _ hw) (hts _ hi) (hts _ hc) rfl (by rw [hml]; exact hL.1) rfl hd (by omega) (by show 2 * 0 + _ + 12 ≤ _; rw [cv_cats]; omega) (kk H locs ls hP hS hL)
/-! the start of a body -/
def arL (vs : List Value) (n : Nat) : List (Option Value) := vs.map some ++ List.replicate (n - vs.length) none
theorem lg_sl1 (vs : List Value) (h : ∀ v ∈ vs, v.category = 1) : lg_sl vs = vs.map Slot.val := by
  induction vs with
  | nil => rfl
  | cons v vs ih =>
    have h1 := h v List.mem_cons_self
    have h2 := ih (fun w hw => h w (List.mem_cons_of_mem _ hw))
    unfold lg_sl at h2 ⊢
    rw [List.flatMap_cons, h2]
    simp [h1]
theorem lv_args1 (vs : List Value) (h : ∀ v ∈ vs, v.category = 1) : ∀ (k i : Nat) (v : Value), vs[i]? = some v → (k + i, v) ∈ lv_args k vs := by
  induction vs with
  | nil => intro k i v hv; simp at hv
  | cons w vs ih =>
    intro k i v hv
    have h1 := h w List.mem_cons_self
    have h1' : ¬ w.category = 2 := by omega
    unfold lv_args
    rw [if_neg h1']
    cases i with
    | zero =>
      simp at hv
      subst hv
      exact List.mem_cons_self
    | succ i =>
      simp at hv
      have h2 := ih (fun w hw => h w (List.mem_cons_of_mem _ hw)) (k + 1) i v hv
      rw [show k + (i + 1) = k + 1 + i by omega]
      exact List.mem_cons_of_mem _ h2
theorem MM.of {vs : List Value} {Q : Option Value → Sg → Prop} (hy : plainName μ.1.cls = true) (hcat : ∀ v ∈ vs, v.category = 1) (hlen : vs.length ≤ μ.2.2.1)
    (h : ∀ X : Cx, BX X l0 g μ d mc ms → WW X g μ.2.2.1 (ZQ X g Q mc ms) 0 0 0 (arL vs μ.2.2.1) [] σ) : MM l0 g d μ σ vs mc ms Q := by
  refine Met.ofW (cc := μ.2.1) (maxL := μ.2.2.1) (ret := μ.2.2.2) hy rfl ?_
  rintro p e s m args below meth c s₁ B hml ⟨rfl, hP, hK, hSw⟩
  have hts : ∀ w ∈ gw, w.before ((vs.map (cv g)).toArray) s = true := fun w hw => atoms_spec (ws := wsm μ) B.pre w (List.mem_cons_of_mem _ hw)
  have hB : gB g ≤ s.heap.size := by rw [hP.1]; omega
  have hbx : BX (p, l0, e, (headSpec (wsm μ) (rmm d mc ms)).room, s, m, (vs.map (cv g)).toArray, below, meth, c) l0 g μ d mc ms :=
    ⟨rfl, B.exec, B.bytes, hml, B.returns, B.notSynchronized, (name_of_methodNamed B.named B.method).1, findClass_of_methodNamed B.named, hts, hK, hSw, hB, Nat.le_refl _, Nat.le_refl _, rfl, rfl⟩
  have k1 := h _ hbx s.heap [] ((lg_sl (vs.map (cv g)) ++ List.replicate (μ.2.2.1 - (lg_sl (vs.map (cv g))).length) Slot.unset).toArray) hP va_S.rf ?_
  · rw [lg_entry_eq]
    exact k1
  · have hcat2 : ∀ v ∈ vs.map (cv g), v.category = 1 := by
      intro v hv
      obtain ⟨w, hw, rfl⟩ := List.mem_map.mp hv
      rw [cv_cat]
      exact hcat w hw
    have hle : (lg_sl (vs.map (cv g))).length ≤ μ.2.2.1 := by
      rw [lg_sl1 _ hcat2, List.length_map, List.length_map]
      exact hlen
    have he := lv_entry (vs.map (cv g)) hle
    refine ⟨he.1, ?_, he.2.1, fun i v hv => ?_⟩
    · unfold arL
      rw [List.length_append, List.length_map, List.length_replicate]
      omega
    · unfold arL at hv
      by_cases hi : i < vs.length
      · rw [List.getElem?_append_left (by rw [List.length_map]; exact hi), List.getElem?_map] at hv
        cases hv2 : vs[i]? with
        | none => rw [hv2] at hv; cases hv
        | some w =>
          rw [hv2] at hv
          cases hv
          have h5 := lv_args1 _ hcat2 0 i (cv g v) (by rw [List.getElem?_map, hv2]; rfl)
          rw [Nat.zero_add] at h5
          exact he.2.2 _ h5
      · rw [List.getElem?_append_right (by rw [List.length_map]; omega)] at hv
        have := List.eq_of_mem_replicate (List.mem_of_getElem? hv)
        cases this
theorem MM.mono {vs : List Value} {Q Q2 : Option Value → Sg → Prop} (h : MM l0 g d μ σ vs mc ms Q) (hq : ∀ r σ', Q r σ' → Q2 r σ') : MM l0 g d μ σ vs mc ms Q2 := by
  intro p e ha hc hk s m args below hf hpre hP hK
  obtain ⟨k, o, h1, h2, h3, ⟨⟨⟨r, σ', q1, q2, q3⟩, q4⟩, q5⟩⟩ := h p e ha hc hk s m args below hf hpre hP hK
  exact ⟨k, o, h1, h2, h3, ⟨⟨r, σ', q1, hq r σ' q2, q3⟩, q4⟩, q5⟩
end FWD
