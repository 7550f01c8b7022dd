/-! NATIVE MEMBERS: arraycopy, getClass; the class object of Object[] (by p67.py) -/
theorem lw_acn : Cond.native arraycopyName ∈ gw := gw_at (i := 394) (by decide +kernel) rfl
theorem lw_acs : Cond.static arraycopyName ∈ gw := gw_at (i := 393) (by decide +kernel) rfl
theorem lw_aci : Cond.initialized "java/lang/System" ∈ gw := gw_at (i := 75) (by decide +kernel) rfl
theorem lw_acJ : Cond.methodLink RJ7 150 arraycopyName ∈ gw := gw_at (i := 392) (by decide +kernel) rfl
theorem lw_acX : Cond.methodLink RX8 290 arraycopyName ∈ gw := gw_at (i := 876) (by decide +kernel) rfl
theorem lw_gcl : Cond.methodLink RJ7 86 gcM ∈ gw := gw_at (i := 366) (by decide +kernel) rfl
theorem lw_gci : Cond.instanceMethod gcM ∈ gw := gw_at (i := 367) (by decide +kernel) rfl
theorem lw_gcn : Cond.native gcM ∈ gw := gw_at (i := 382) (by decide +kernel) rfl
theorem lw_gcs : Cond.selects "[Ljava/lang/Object;" gcM gcM ∈ gw := gw_at (i := 1403) (by decide +kernel) rfl
theorem nat_i32 (z : Int32) (hz : ¬ z < 0) : z.toInt = (z.toNatClampNeg : Int) := by
  have hz0 : (0 : Int) ≤ z.toInt := by
    have := Int32.not_lt.mp hz
    simpa using Int32.le_iff_toInt_le.mp this
  show z.toInt = ((z.toInt.toNat : Nat) : Int)
  omega
section FWE
variable {X : Cx} {l0 : Launch} {g : Gw} {μ : Md} {d mc ms : Nat} {Z : State → Prop} {kc ks pc : Nat} {L : List (Option Value)} {st : List Value} {σ : Sg}
theorem w_copyS {idx q0 q1 n0 n1 : Nat} {f f1 : Nat → Int32} {sp dp n : Int32} (b : BX X l0 g μ d mc ms) (hd : decode μ.2.1 pc = .ok (.invokestatic idx, 3)) (hw : Cond.methodLink μ.1.cls idx arraycopyName ∈ gw) (e0 : σ.1 q0 = .inl (2, n0, .inl f)) (e1 : σ.1 q1 = .inl (2, n1, .inl f1)) (h1 : ¬ sp < 0) (h2 : ¬ dp < 0) (h3 : ¬ n < 0) (h4 : sp.toNatClampNeg + n.toNatClampNeg ≤ n0) (h5 : dp.toNatClampNeg + n.toNatClampNeg ≤ n1) (hfit : ∀ i, i < n.toNatClampNeg → fits .short (.int (f (sp.toNatClampNeg + i))) = true) (hdd : 1 ≤ d) (hw8 : (st.map fun v => v.category).sum ≤ 8)
    (kk : WW X g μ.2.2.1 Z kc ks (pc + 3) L st (va_up σ.1 q1 (.inl (2, n1, .inl (va_cpy f f1 sp.toNatClampNeg dp.toNatClampNeg n.toNatClampNeg))), σ.2)) : WW X g μ.2.2.1 Z kc ks pc L (.int n :: .int dp :: .ref q1 :: .int sp :: .ref q0 :: st) σ := by
  obtain ⟨p, l, e, R, s, m, args, below, meth, c⟩ := X
  obtain ⟨hl0, hx, hb, hml, hr, hlk, hnm, hown, hts, hK, hSw, hB, hR1, hR2, hR3, hR4⟩ := b
  intro H locs ls hP hS hL
  have hc0 : H[gB g + q0]? = some (vp_cell (gA g 2) (n0, .inl f)) := hP.2.2 q0 _ (hP.at e0 neI)
  have hc1 : H[gB g + q1]? = some (vp_cell (gA g 2) (n1, .inl f1)) := hP.2.2 q1 _ (hP.at e1 neI)
  obtain ⟨-, k0, hk0, cm0, hkk0⟩ := (hK.1.2 2 _ rfl).1 n0 (fun j => .int (f j))
  obtain ⟨-, k1, hk1, cm1, hkk1⟩ := (hK.1.2 2 _ rfl).1 n1 (fun j => .int (f1 j))
  intro T hT XX
  obtain ⟨vm', X', step⟩ := XX.arraycopy hx hown (hts _ hw) (hts _ lw_acn) (hts _ lw_acs) (hts _ lw_aci) (src := gB g + q0) (dst := gB g + q1) (cs := vp_cell (gA g 2) (n0, .inl f)) (cd := vp_cell (gA g 2) (n1, .inl f1)) (srcPos := sp) (destPos := dp) (n := n) (by rw [hT]; exact hc0) (by rw [hT]; exact hc1)
    (fun _ h => by cases h) (fun _ h => by cases h) (fun h => by cases h) (fun h => by cases h) hk0 hk1 hkk0 hkk1 (by show ((refKind FieldType.short != refKind FieldType.short) || (!refKind FieldType.short && FieldType.short != FieldType.short)) = false; decide) h1 h2 h3
    (by rw [nat_i32 sp h1, nat_i32 n h3]; show ¬ _ > ((arrV (gA g 2) n0 (fun j => .int (f j))).slots.size : Int); rw [arrV_size]; omega)
    (by rw [nat_i32 dp h2, nat_i32 n h3]; show ¬ _ > ((arrV (gA g 2) n1 (fun j => .int (f1 j))).slots.size : Int); rw [arrV_size]; omega)
    (fun vm₁ _ i hi => by
      have e5 : (vp_cell (gA g 2) (n0, .inl f)).slots.getD (sp.toNatClampNeg + i) .null = .int (f (sp.toNatClampNeg + i)) := by
        show (arrV (gA g 2) n0 (fun j => .int (f j))).slots.getD _ _ = _
        rw [Array.getD_eq_getD_getElem?, arrV_read _ _ (by omega)]
        rfl
      rw [e5]
      exact ⟨hfit i hi, trivial⟩)
    (g := F0 m pc ls (.int n :: .int dp :: .ref (gB g + q1) :: .int sp :: .ref (gB g + q0) :: st.map (cv g))) rfl (by show ls.size = _; rw [hL.1]; exact hml.symm) (rest := st.map (cv g)) rfl (by rw [hb]; exact hd) (by omega) (by rw [cv_cats]; show 2 * 0 + _ + (7 + 11) ≤ _; omega)
  have e6 : copied (vp_cell (gA g 2) (n0, .inl f)) (vp_cell (gA g 2) (n1, .inl f1)) sp dp n = vp_cell (gA g 2) (n1, .inl (va_cpy f f1 sp.toNatClampNeg dp.toNatClampNeg n.toNatClampNeg)) := va_copied (fun z => .int z) (gA g 2) (gA g 2) f f1 h4
  rw [e6] at X' step
  have hl : gB g + q1 < H.size := (Array.getElem?_eq_some_iff.mp hc1).1
  generalize hH1 : H.setIfInBounds (gB g + q1) (vp_cell (gA g 2) (n1, .inl (va_cpy f f1 sp.toNatClampNeg dp.toNatClampNeg n.toNatClampNeg))) = H1
  have hheap : ((T.setVm vm').setCell (gB g + q1) (vp_cell (gA g 2) (n1, .inl (va_cpy f f1 sp.toNatClampNeg dp.toNatClampNeg n.toNatClampNeg)))).heap = H1 := by rw [← hH1, ← hT]; rfl
  have oq : ∀ q : Nat, q ≠ gB g + q1 → H1[q]? = H[q]? := fun q hq => by rw [← hH1]; simp [Array.getElem?_setIfInBounds, Ne.symm hq]
  have hz : H1.size = H.size := by rw [← hH1]; simp
  obtain ⟨r1, -⟩ := st_fin (j := 0) (c1 := .inl (2, n1, .inl (va_cpy f f1 sp.toNatClampNeg dp.toNatClampNeg n.toNatClampNeg))) hP hS e1 neI (by
    show H1[gB g + q1]? = some _
    rw [← hH1]; simp [Array.getElem?_setIfInBounds, hl]) hz oq
  obtain ⟨t, a1, b1⟩ := kk H1 _ ls r1 ⟨by rw [hz]; exact hS.1, fun q g1 g2 => by
      rw [oq q (fun z => g2 (by rw [z]; exact Nat.le_add_right _ _))]
      exact hS.2.1 q g1 g2, fun q hq => by
      rcases List.mem_append.mp hq with h | h
      · exact hS.2.2 q h
      · obtain ⟨z, -, hz⟩ := List.mem_map.mp h
        rw [← hz]
        exact Nat.le_add_right _ _⟩ hL _ hheap X'
  exact ⟨t, step t a1, b1⟩
theorem w_copyR {idx q0 q1 n0 n1 ci : Nat} {C : String} {T0 : u_T} {N0 : Nat} {f f1 : Nat → Option Nat} {sp dp n : Int32} (b : BX X l0 g μ d mc ms) (hd : decode μ.2.1 pc = .ok (.invokestatic idx, 3)) (hw : Cond.methodLink μ.1.cls idx arraycopyName ∈ gw) (e0 : σ.1 q0 = .inl (4, n0, .inr (.inr (.inr (.inr f))))) (e1 : σ.1 q1 = .inl (4, n1, .inr (.inr (.inr (.inr f1))))) (h1 : ¬ sp < 0) (h2 : ¬ dp < 0) (h3 : ¬ n < 0) (h4 : sp.toNatClampNeg + n.toNatClampNeg ≤ n0) (h5 : dp.toNatClampNeg + n.toNatClampNeg ≤ n1) (hC : kcls[ci]? = some (C, T0, N0)) (hE : C ∈ caC) (hel : ∀ i, i < n.toNatClampNeg → ∀ y, f (sp.toNatClampNeg + i) = some y → ∃ fs, σ.1 y = .inr (ci, fs)) (hdd : 1 ≤ d) (hw8 : (st.map fun v => v.category).sum ≤ 8)
    (kk : WW X g μ.2.2.1 Z kc ks (pc + 3) L st (va_up σ.1 q1 (.inl (4, n1, .inr (.inr (.inr (.inr (va_cpy f f1 sp.toNatClampNeg dp.toNatClampNeg n.toNatClampNeg)))))), σ.2)) : WW X g μ.2.2.1 Z kc ks pc L (.int n :: .int dp :: .ref q1 :: .int sp :: .ref q0 :: st) σ := by
  obtain ⟨p, l, e, R, s, m, args, below, meth, c⟩ := X
  obtain ⟨hl0, hx, hb, hml, hr, hlk, hnm, hown, hts, hK, hSw, hB, hR1, hR2, hR3, hR4⟩ := b
  intro H locs ls hP hS hL
  have hc0 : H[gB g + q0]? = some (vp_cell (gA g 4) (n0, .inr (.inr (.inr (.inr (fun j => (f j).map (fun k => gB g + k))))))) := hP.2.2 q0 _ (hP.at e0 neI)
  have hc1 : H[gB g + q1]? = some (vp_cell (gA g 4) (n1, .inr (.inr (.inr (.inr (fun j => (f1 j).map (fun k => gB g + k))))))) := hP.2.2 q1 _ (hP.at e1 neI)
  obtain ⟨-, k0, hk0, cm0, hkk0⟩ := (hK.1.2 4 _ rfl).1 n0 (fun j => va_rf ((f j).map (fun k => gB g + k)))
  obtain ⟨-, k1, hk1, cm1, hkk1⟩ := (hK.1.2 4 _ rfl).1 n1 (fun j => va_rf ((f1 j).map (fun k => gB g + k)))
  intro T hT XX
  obtain ⟨vm', X', step⟩ := XX.arraycopy hx hown (hts _ hw) (hts _ lw_acn) (hts _ lw_acs) (hts _ lw_aci) (src := gB g + q0) (dst := gB g + q1) (cs := vp_cell (gA g 4) (n0, .inr (.inr (.inr (.inr (fun j => (f j).map (fun k => gB g + k))))))) (cd := vp_cell (gA g 4) (n1, .inr (.inr (.inr (.inr (fun j => (f1 j).map (fun k => gB g + k))))))) (srcPos := sp) (destPos := dp) (n := n) (by rw [hT]; exact hc0) (by rw [hT]; exact hc1)
    (fun _ h => by cases h) (fun _ h => by cases h) (fun h => by cases h) (fun h => by cases h) hk0 hk1 hkk0 hkk1 rfl h1 h2 h3
    (by rw [nat_i32 sp h1, nat_i32 n h3]; show ¬ _ > ((arrV (gA g 4) n0 (fun j => va_rf ((f j).map (fun k => gB g + k)))).slots.size : Int); rw [arrV_size]; omega)
    (by rw [nat_i32 dp h2, nat_i32 n h3]; show ¬ _ > ((arrV (gA g 4) n1 (fun j => va_rf ((f1 j).map (fun k => gB g + k)))).slots.size : Int); rw [arrV_size]; omega)
    (fun vm₁ hal i hi => by
      have e5 : (vp_cell (gA g 4) (n0, .inr (.inr (.inr (.inr (fun j => (f j).map (fun k => gB g + k))))))).slots.getD (sp.toNatClampNeg + i) .null = va_rf ((f (sp.toNatClampNeg + i)).map (fun k => gB g + k)) := by
        show (arrV (gA g 4) n0 (fun j => va_rf ((f j).map (fun k => gB g + k)))).slots.getD _ _ = _
        rw [Array.getD_eq_getD_getElem?, arrV_read _ _ (by omega)]
        rfl
      rw [e5]
      cases hy : f (sp.toNatClampNeg + i) with
      | none => exact ⟨rfl, trivial⟩
      | some y =>
        obtain ⟨fs, hfs⟩ := hel i hi y hy
        obtain ⟨cellV, g1, g2, g3⟩ := va_recv hK.1 hP.2.2 hC (hP.at hfs (neO hC))
        obtain ⟨kA, comp, r1, r2, r3, -⟩ := (hK.1.2 4 _ rfl).2
        cases hk1.symm.trans r1
        cases hkk1.symm.trans r2
        obtain ⟨kC, hkC, -⟩ := Vm.findClass_spec g3
        obtain ⟨kE, hkE, -⟩ := Vm.findClass_spec r3
        obtain ⟨kC', hkC', -⟩ := hal.2.2 _ _ hkC
        obtain ⟨kE', hkE', -⟩ := hal.2.2 _ _ hkE
        refine ⟨rfl, cellV, (show T.heap[gB g + y]? = some cellV by rw [hT]; exact g1), (fun q h => by rw [h] at g2; cases g2), ⟨kC', hkC'⟩, ⟨kE', hkE'⟩, ?_⟩
        show vm₁.assignable _ _ = true
        rw [hal.assignable]
        obtain ⟨c0, t1, f1', f2, f3⟩ := Cond.castable_spec (va_Nw.use (A := args) rfl (hK.2.2.2.1 C hE))
        cases g3.symm.trans f1'
        cases r3.symm.trans f2
        exact f3)
    (g := F0 m pc ls (.int n :: .int dp :: .ref (gB g + q1) :: .int sp :: .ref (gB g + q0) :: st.map (cv g))) rfl (by show ls.size = _; rw [hL.1]; exact hml.symm) (rest := st.map (cv g)) rfl (by rw [hb]; exact hd) (by omega) (by rw [cv_cats]; show 2 * 0 + _ + (7 + 11) ≤ _; omega)
  have e7 : (fun j => (va_cpy f f1 sp.toNatClampNeg dp.toNatClampNeg n.toNatClampNeg j).map (fun k => gB g + k)) = va_cpy (fun j => (f j).map (fun k => gB g + k)) (fun j => (f1 j).map (fun k => gB g + k)) sp.toNatClampNeg dp.toNatClampNeg n.toNatClampNeg := by
    funext j
    unfold va_cpy
    split <;> rfl
  have e6 : copied (vp_cell (gA g 4) (n0, .inr (.inr (.inr (.inr (fun j => (f j).map (fun k => gB g + k))))))) (vp_cell (gA g 4) (n1, .inr (.inr (.inr (.inr (fun j => (f1 j).map (fun k => gB g + k))))))) sp dp n = vp_cell (gA g 4) (n1, .inr (.inr (.inr (.inr (fun j => (va_cpy f f1 sp.toNatClampNeg dp.toNatClampNeg n.toNatClampNeg j).map (fun k => gB g + k)))))) := by
    rw [e7, vp_cell_q, vp_cell_q, vp_cell_q]
    exact va_copied (fun z => va_rf z) (gA g 4) (gA g 4) _ _ h4
  rw [e6] at X' step
  have hl : gB g + q1 < H.size := (Array.getElem?_eq_some_iff.mp hc1).1
  generalize hH1 : H.setIfInBounds (gB g + q1) (vp_cell (gA g 4) (n1, .inr (.inr (.inr (.inr (fun j => (va_cpy f f1 sp.toNatClampNeg dp.toNatClampNeg n.toNatClampNeg j).map (fun k => gB g + k))))))) = H1
  have hheap : ((T.setVm vm').setCell (gB g + q1) (vp_cell (gA g 4) (n1, .inr (.inr (.inr (.inr (fun j => (va_cpy f f1 sp.toNatClampNeg dp.toNatClampNeg n.toNatClampNeg j).map (fun k => gB g + k)))))))).heap = H1 := by rw [← hH1, ← hT]; rfl
  have oq : ∀ q : Nat, q ≠ gB g + q1 → H1[q]? = H[q]? := fun q hq => by rw [← hH1]; simp [Array.getElem?_setIfInBounds, Ne.symm hq]
  have hz : H1.size = H.size := by rw [← hH1]; simp
  obtain ⟨r1, -⟩ := st_fin (j := 0) (c1 := .inl (4, n1, .inr (.inr (.inr (.inr (va_cpy f f1 sp.toNatClampNeg dp.toNatClampNeg n.toNatClampNeg)))))) hP hS e1 neI (by
    show H1[gB g + q1]? = some _
    rw [← hH1]; simp [Array.getElem?_setIfInBounds, hl]) hz oq
  obtain ⟨t, a1, b1⟩ := kk H1 _ ls r1 ⟨by rw [hz]; exact hS.1, fun q g1 g2 => by
      rw [oq q (fun z => g2 (by rw [z]; exact Nat.le_add_right _ _))]
      exact hS.2.1 q g1 g2, fun q hq => by
      rcases List.mem_append.mp hq with h | h
      · exact hS.2.2 q h
      · obtain ⟨z, -, hz⟩ := List.mem_map.mp h
        rw [← hz]
        exact Nat.le_add_right _ _⟩ hL _ hheap X'
  exact ⟨t, step t a1, b1⟩
theorem w_getC {q n : Nat} {y : (Nat → Int32) ⊕ (Nat → Int64) ⊕ (Nat → UInt32) ⊕ (Nat → UInt64) ⊕ (Nat → Option Nat)} {idx : Nat} (b : BX X l0 g μ d mc ms) (hd : decode μ.2.1 pc = .ok (.invokevirtual idx, 3)) (hw : Cond.methodLink μ.1.cls idx gcM ∈ gw) (hc : σ.1 q = .inl (4, n, y)) (hdd : 1 ≤ d) (hw8 : (st.map fun v => v.category).sum ≤ 8)
    (kk : WW X g μ.2.2.1 Z kc ks (pc + 3) L (.float 2 :: st) σ) : WW X g μ.2.2.1 Z kc ks pc L (.ref q :: st) σ := by
  obtain ⟨p, l, e, R, s, m, args, below, meth, c⟩ := X
  obtain ⟨hl0, hx, hb, hml, hr, hlk, hnm, hown, hts, hK, hSw, hB, hR1, hR2, hR3, hR4⟩ := b
  intro H locs ls hP hS hL
  have ha := hP.at hc neI
  have he : ∃ y', ce g (.inl (4, n, y)) = .inl (gA g 4, n, y') := by
    rcases y with f | f | f | f | f <;> exact ⟨_, rfl⟩
  obtain ⟨y', he⟩ := he
  rw [he] at ha
  have hcell : H[gB g + q]? = some (vp_cell (gA g 4) (n, y')) := hP.2.2 q _ ha
  have hfc : s.vm.findClass "[Ljava/lang/Object;" = some (gA g 4) := va_nmO (C := "java/lang/Object") (hK.1.2 4 _ rfl).2 (by decide)
  refine va_getC (C := "[Ljava/lang/Object;") hx hb (by rw [hL.1]; exact hml) hown (hts _ hw) (va_Nw.use (A := args) rfl (hK.2.2.2.2.2.2.1 _ (by simp [cdW]; exact Or.inr (Or.inr (Or.inr rfl))))) (hts _ lw_gcs) (hts _ lw_gci) (hts _ lw_gcn) hK.2.2.2.2.1 ⟨_, hcell, ?_, ?_⟩ (by omega) (by rw [cv_cats]; omega) hd (kk H locs ls hP hS hL)
  · rcases y' with f | f | f | f | f <;> rfl
  · rw [hfc]; rcases y' with f | f | f | f | f <;> rfl
theorem w_ldcM {idx : Nat} (b : BX X l0 g μ d mc ms) (hd : decode μ.2.1 pc = .ok (.ldc idx, 2)) (hw : Cond.classLink μ.1.cls idx "[Ljava/lang/Object;" ∈ gw)
    (kk : WW X g μ.2.2.1 Z kc ks (pc + 2) L (.float 2 :: st) σ) : WW X g μ.2.2.1 Z kc ks pc L st σ := by
  obtain ⟨p, l, e, R, s, m, args, below, meth, c⟩ := X
  obtain ⟨hl0, hx, hb, hml, hr, hlk, hnm, hown, hts, hK, hSw, hB, hR1, hR2, hR3, hR4⟩ := b
  intro H locs ls hP hS hL
  exact va_ldcM hx hb hown (hts _ hw) hK.2.2.2.2.1 hd (kk H locs ls hP hS hL)
theorem w_acmp_neE {q : UInt32} {off : Int} (b : BX X l0 g μ d mc ms) (hd : decode μ.2.1 pc = .ok (.if_acmp .ne off, 3)) {tgt : Nat} (ht : (pc : Int) + off = (tgt : Int))
    (kk : WW X g μ.2.2.1 Z kc ks (pc + 3) L st σ) : WW X g μ.2.2.1 Z kc ks pc L (.float q :: .float q :: st) σ := by
  obtain ⟨p, l, e, R, s, m, args, below, meth, c⟩ := X
  obtain ⟨hl0, hx, hb, hml, hr, hlk, hnm, hown, hts, hK, hSw, hB, hR1, hR2, hR3, hR4⟩ := b
  intro H locs ls hP hS hL
  exact lv_acmp_ne (rx := some _) (ry := some _) hx hb hd ht (fun z => absurd rfl z) (fun _ => kk H locs ls hP hS hL)
/-- a stretch of one row into another, as both were before -/
def cpyF (f f1 : Int → Int) (sp dp n : Int) : Int → Int := fun k => if dp ≤ k ∧ k < dp + n then f (sp + (k - dp)) else f1 k
theorem z_copyS {idx q0 q1 n0 n1 : Nat} {f f1 : Int → Int} {sp dp n : Int} (b : BX X l0 g μ d mc ms) (hd : decode μ.2.1 pc = .ok (.invokestatic idx, 3)) (hw : Cond.methodLink μ.1.cls idx arraycopyName ∈ gw) (e0 : σ.1 q0 = iarr 2 n0 f) (e1 : σ.1 q1 = iarr 2 n1 f1) (h : 0 ≤ sp ∧ 0 ≤ dp ∧ 0 ≤ n ∧ sp + n ≤ (n0 : Int) ∧ dp + n ≤ (n1 : Int)) (hb8 : n0 ≤ 1000 ∧ n1 ≤ 1000) (hfit : ∀ i, sp ≤ i → i < sp + n → -32768 ≤ f i ∧ f i < 32768) (hdd : 1 ≤ d) (hw8 : (st.map fun v => v.category).sum ≤ 8)
    (kk : WW X g μ.2.2.1 Z kc ks (pc + 3) L st (va_up σ.1 q1 (iarr 2 n1 (cpyF f f1 sp dp n)), σ.2)) : WW X g μ.2.2.1 Z kc ks pc L (.int (iI n) :: .int (iI dp) :: .ref q1 :: .int (iI sp) :: .ref q0 :: st) σ := by
  have c1 : (iI sp).toNatClampNeg = sp.toNat := iI_clamp (by omega) (by omega)
  have c2 : (iI dp).toNatClampNeg = dp.toNat := iI_clamp (by omega) (by omega)
  have c3 : (iI n).toNatClampNeg = n.toNat := iI_clamp (by omega) (by omega)
  refine w_copyS b hd hw e0 e1 (fun z => by have := (iI_lt (b := 0) (by omega) (by decide)).mp z; omega) (fun z => by have := (iI_lt (b := 0) (by omega) (by decide)).mp z; omega) (fun z => by have := (iI_lt (b := 0) (by omega) (by decide)).mp z; omega) (by rw [c1, c3]; omega) (by rw [c2, c3]; omega) (fun i hi => ?_) hdd hw8 ?_
  · rw [c3] at hi
    rw [c1]
    have h1 := hfit ((sp.toNat + i : Nat) : Int) (by omega) (by omega)
    show (decide (-32768 ≤ iI (f ((sp.toNat + i : Nat) : Int))) && decide (iI (f ((sp.toNat + i : Nat) : Int)) ≤ 32767)) = true
    have h2 : (-32768 : Int32) ≤ iI (f ((sp.toNat + i : Nat) : Int)) := (iI_le (a := -32768) (by decide) (by omega)).mpr h1.1
    have h3 : iI (f ((sp.toNat + i : Nat) : Int)) ≤ (32767 : Int32) := (iI_le (b := 32767) (by omega) (by decide)).mpr (by omega)
    rw [Bool.and_eq_true]
    exact ⟨decide_eq_true h2, decide_eq_true h3⟩
  · rw [c1, c2, c3]
    refine ww_cast rfl rfl ?_ kk
    refine Prod.ext ?_ rfl
    show va_up σ.1 q1 _ = va_up σ.1 q1 _
    congr 1
    unfold iarr
    refine congrArg (fun z => Sum.inl (2, n1, Sum.inl z)) ?_
    funext j
    unfold va_cpy cpyF
    by_cases hj : dp.toNat ≤ j ∧ j < dp.toNat + n.toNat
    · rw [if_pos hj, if_pos (by omega)]
      refine congrArg (fun z => iI (f z)) ?_
      omega
    · rw [if_neg hj, if_neg (by omega)]
end FWE
set_option maxRecDepth 20000 in
theorem k_X8_copy0 {l0 : Launch} {g : Gw} {w nx : Nat} {h : Nat → va_E} {C : Nat → Nat → Int} {A : Nat → Int → Int} {V : Nat → Value} {d i e j n : Int} (hd : inR d) (hi : inR i) (he : inR e) (hj : inR j) (hn : inR n) (hk : ∀ r : Nat, r < 8 → 0 ≤ C (241 + 2 * r) 1 ∧ C (241 + 2 * r) 1 ≤ 4) (hz : ∀ r : Nat, r < 8 → 0 ≤ C (241 + 2 * r) 2 ∧ C (241 + 2 * r) 2 ≤ 60) (hb : ¬ ((0 ≤ d ∧ d ≤ 7) ∧ (0 ≤ e ∧ e ≤ 7) ∧ (C (241 + 2 * d.toNat) 1 = 3 ∨ C (241 + 2 * d.toNat) 1 = 4) ∧ C (241 + 2 * d.toNat) 1 = C (241 + 2 * e.toNat) 1 ∧ 0 ≤ n ∧ 0 ≤ i ∧ 0 ≤ j ∧ i ≤ C (241 + 2 * d.toNat) 2 - n ∧ j ≤ C (241 + 2 * e.toNat) 2 - n)) : MD l0 g 2 mX8_copy (cp w C A V h, nx) [.ref 0, .int (iI (d)), .int (iI (i)), .int (iI (e)), .int (iI (j)), .int (iI (n))] 0 0 (some (.int (iI (if (0 ≤ d ∧ d ≤ 7) ∧ (0 ≤ e ∧ e ≤ 7) then (if C (241 + 2 * d.toNat) 1 = 0 ∨ C (241 + 2 * e.toNat) 1 = 0 then -11 else if ¬ (C (241 + 2 * d.toNat) 1 = 3 ∨ C (241 + 2 * d.toNat) 1 = 4) ∨ ¬ C (241 + 2 * d.toNat) 1 = C (241 + 2 * e.toNat) 1 then -12 else -13) else -1)))) (cp w C A V h, nx) := by
  refine MD.of (by decide +kernel) (by simp [Value.category]) (tle rfl) (fun X b => ?_)
  change WW X g _ _ 0 0 0 [some (.ref 0), some (.int (iI (d))), some (.int (iI (i))), some (.int (iI (e))), some (.int (iI (j))), some (.int (iI (n))), none, none] [] _
  refine w_iload_n b dX8_copy_0 rfl ?_
  refine c_S1 b dX8_copy_1 lmX8_242 (k_X8_isShelf (by omega)) (tle rfl) (by omega) (by omega) (by omega) ?_
  refine z_ifb_eq (tgt := 14) b dX8_copy_4 (by decide) (fun c4 => ?_) (fun c4 => ?_)
  · refine z_iconst b dX8_copy_14 ?_
    exact w_iret b dX8_copy_15 rfl (by omega) (by omega) ⟨iv_eq (by (repeat' split) <;> first | rfl | omega), rfl⟩
  · refine w_iload_n b dX8_copy_7 rfl ?_
    refine c_S1 b dX8_copy_8 lmX8_242 (k_X8_isShelf (by omega)) (tle rfl) (by omega) (by omega) (by omega) ?_
    refine z_ifb_ne (tgt := 16) b dX8_copy_11 (by decide) (fun c11 => ?_) (fun c11 => ?_)
    · have hkd := hk d.toNat (by omega)
      have hzd := hz d.toNat (by omega)
      have hke := hk e.toNat (by omega)
      have hze := hz e.toNat (by omega)
      refine w_aload_n b dX8_copy_16 rfl rfl ?_
      refine q_get b dX8_copy_17 lfX8_46 (tlt rfl) ct_0 rfl ?_
      refine w_iload_n b dX8_copy_20 rfl ?_
      refine q_aald b dX8_copy_21 (tlt rfl) ct_240 (by omega) (by omega) ?_
      refine w_astore b dX8_copy_22 (tlt rfl) rfl rfl ?_
      refine w_aload_n b dX8_copy_24 rfl rfl ?_
      refine q_get b dX8_copy_25 lfX8_46 (tlt rfl) ct_0 rfl ?_
      refine w_iload_n b dX8_copy_28 rfl ?_
      refine q_aald b dX8_copy_29 (tlt rfl) ct_240 (by omega) (by omega) ?_
      refine w_astore b dX8_copy_30 (tlt rfl) rfl rfl ?_
      refine w_aload b dX8_copy_32 rfl rfl ?_
      refine q_get b dX8_copy_34 lfX8_286 (by omega) (ct_shelf (by omega)) rfl ?_
      refine z_if_eq (tgt := 48) b dX8_copy_37 (by decide) (by omega) (fun c37 => ?_) (fun c37 => ?_)
      · refine z_bipush b dX8_copy_48 (by decide) ?_
        exact w_iret b dX8_copy_50 rfl (by omega) (by omega) ⟨iv_eq (by (repeat' split) <;> first | rfl | omega), rfl⟩
      · refine w_aload b dX8_copy_40 rfl rfl ?_
        refine q_get b dX8_copy_42 lfX8_286 (by omega) (ct_shelf (by omega)) rfl ?_
        refine z_if_ne (tgt := 51) b dX8_copy_45 (by decide) (by omega) (fun c45 => ?_) (fun c45 => ?_)
        · refine w_aload b dX8_copy_51 rfl rfl ?_
          refine c_V0 b dX8_copy_53 lmX8_271 (cpS (by omega) (ct_shelf (by omega))) (k_X4_holdsRow (by omega) (by omega)) (tle rfl) (by omega) (by omega) (by omega) ?_
          refine z_ifb_eq (tgt := 72) b dX8_copy_56 (by decide) (fun c56 => ?_) (fun c56 => ?_)
          · refine z_bipush b dX8_copy_72 (by decide) ?_
            exact w_iret b dX8_copy_74 rfl (by omega) (by omega) ⟨iv_eq (by (repeat' split) <;> first | rfl | omega), rfl⟩
          · refine w_aload b dX8_copy_59 rfl rfl ?_
            refine q_get b dX8_copy_61 lfX8_286 (by omega) (ct_shelf (by omega)) rfl ?_
            refine w_aload b dX8_copy_64 rfl rfl ?_
            refine q_get b dX8_copy_66 lfX8_286 (by omega) (ct_shelf (by omega)) rfl ?_
            refine z_icmp_eq (tgt := 75) b dX8_copy_69 (by decide) (by omega) (fun c69 => ?_) (fun c69 => ?_)
            · refine w_aload b dX8_copy_75 rfl rfl ?_
              refine w_iload_n b dX8_copy_77 rfl ?_
              refine w_iload b dX8_copy_78 rfl ?_
              refine c_V2 b dX8_copy_80 lmX8_287 (cpS (by omega) (ct_shelf (by omega))) (k_X4_hasPlaces (by omega) (by omega) (by omega) (by omega)) (tle rfl) (by omega) (by omega) (by omega) ?_
              refine z_ifb_eq (tgt := 98) b dX8_copy_83 (by decide) (fun c83 => ?_) (fun c83 => ?_)
              · refine z_bipush b dX8_copy_98 (by decide) ?_
                exact w_iret b dX8_copy_100 rfl (by omega) (by omega) ⟨iv_eq (by (repeat' split) <;> first | rfl | omega), rfl⟩
              · refine w_aload b dX8_copy_86 rfl rfl ?_
                refine w_iload b dX8_copy_88 rfl ?_
                refine w_iload b dX8_copy_90 rfl ?_
                refine c_V2 b dX8_copy_92 lmX8_287 (cpS (by omega) (ct_shelf (by omega))) (k_X4_hasPlaces (by omega) (by omega) (by omega) (by omega)) (tle rfl) (by omega) (by omega) (by omega) ?_
                refine z_ifb_ne (tgt := 101) b dX8_copy_95 (by decide) (fun c95 => ?_) (fun c95 => ?_)
                · exfalso; omega
                · refine z_bipush b dX8_copy_98 (by decide) ?_
                  exact w_iret b dX8_copy_100 rfl (by omega) (by omega) ⟨iv_eq (by (repeat' split) <;> first | rfl | omega), rfl⟩
            · refine z_bipush b dX8_copy_72 (by decide) ?_
              exact w_iret b dX8_copy_74 rfl (by omega) (by omega) ⟨iv_eq (by (repeat' split) <;> first | rfl | omega), rfl⟩
        · refine z_bipush b dX8_copy_48 (by decide) ?_
          exact w_iret b dX8_copy_50 rfl (by omega) (by omega) ⟨iv_eq (by (repeat' split) <;> first | rfl | omega), rfl⟩
    · refine z_iconst b dX8_copy_14 ?_
      exact w_iret b dX8_copy_15 rfl (by omega) (by omega) ⟨iv_eq (by (repeat' split) <;> first | rfl | omega), rfl⟩
theorem cpS1 {w nx : Nat} {C : Nat → Nat → Int} {A : Nat → Int → Int} {V : Nat → Value} {h : Nat → va_E} {q t n : Nat} (hq : q < 257) (hO : ct w (C q) (A q) (V q) q = iarr t n (A q)) : ((cp w C A V h, nx) : Sg).1 q = iarr t n (A q) := (cp_lt hq).trans hO
set_option maxRecDepth 20000 in
theorem k_X8_copy1 {l0 : Launch} {g : Gw} {w nx : Nat} {h : Nat → va_E} {C : Nat → Nat → Int} {A : Nat → Int → Int} {V : Nat → Value} {d i e j n : Int} (hk : ∀ r : Nat, r < 8 → 0 ≤ C (241 + 2 * r) 1 ∧ C (241 + 2 * r) 1 ≤ 4) (hz : ∀ r : Nat, r < 8 → 0 ≤ C (241 + 2 * r) 2 ∧ C (241 + 2 * r) 2 ≤ 60) (hel : ∀ r : Nat, r < 8 → ∀ x, 0 ≤ x → x < C (241 + 2 * r) 2 → -32768 ≤ A (241 + 2 * r + 1) x ∧ A (241 + 2 * r + 1) x < 32768) (hok : (0 ≤ d ∧ d ≤ 7) ∧ (0 ≤ e ∧ e ≤ 7) ∧ (C (241 + 2 * d.toNat) 1 = 3 ∨ C (241 + 2 * d.toNat) 1 = 4) ∧ C (241 + 2 * d.toNat) 1 = C (241 + 2 * e.toNat) 1 ∧ 0 ≤ n ∧ 0 ≤ i ∧ 0 ≤ j ∧ i ≤ C (241 + 2 * d.toNat) 2 - n ∧ j ≤ C (241 + 2 * e.toNat) 2 - n) : MD l0 g 2 mX8_copy (cp w C A V h, nx) [.ref 0, .int (iI (d)), .int (iI (i)), .int (iI (e)), .int (iI (j)), .int (iI (n))] 0 0 (some (.int (iI (n)))) (cp w C (va_up A (241 + 2 * e.toNat + 1) (cpyF (A (241 + 2 * d.toNat + 1)) (A (241 + 2 * e.toNat + 1)) i j n)) V h, nx) := by
  refine MD.of (by decide +kernel) (by simp [Value.category]) (tle rfl) (fun X b => ?_)
  change WW X g _ _ 0 0 0 [some (.ref 0), some (.int (iI (d))), some (.int (iI (i))), some (.int (iI (e))), some (.int (iI (j))), some (.int (iI (n))), none, none] [] _
  refine w_iload_n b dX8_copy_0 rfl ?_
  refine c_S1 b dX8_copy_1 lmX8_242 (k_X8_isShelf (by omega)) (tle rfl) (by omega) (by omega) (by omega) ?_
  refine z_ifb_eq (tgt := 14) b dX8_copy_4 (by decide) (fun c4 => ?_) (fun c4 => ?_)
  · exfalso; omega
  · refine w_iload_n b dX8_copy_7 rfl ?_
    refine c_S1 b dX8_copy_8 lmX8_242 (k_X8_isShelf (by omega)) (tle rfl) (by omega) (by omega) (by omega) ?_
    refine z_ifb_ne (tgt := 16) b dX8_copy_11 (by decide) (fun c11 => ?_) (fun c11 => ?_)
    · have hkd := hk d.toNat (by omega)
      have hzd := hz d.toNat (by omega)
      have hke := hk e.toNat (by omega)
      have hze := hz e.toNat (by omega)
      refine w_aload_n b dX8_copy_16 rfl rfl ?_
      refine q_get b dX8_copy_17 lfX8_46 (tlt rfl) ct_0 rfl ?_
      refine w_iload_n b dX8_copy_20 rfl ?_
      refine q_aald b dX8_copy_21 (tlt rfl) ct_240 (by omega) (by omega) ?_
      refine w_astore b dX8_copy_22 (tlt rfl) rfl rfl ?_
      refine w_aload_n b dX8_copy_24 rfl rfl ?_
      refine q_get b dX8_copy_25 lfX8_46 (tlt rfl) ct_0 rfl ?_
      refine w_iload_n b dX8_copy_28 rfl ?_
      refine q_aald b dX8_copy_29 (tlt rfl) ct_240 (by omega) (by omega) ?_
      refine w_astore b dX8_copy_30 (tlt rfl) rfl rfl ?_
      refine w_aload b dX8_copy_32 rfl rfl ?_
      refine q_get b dX8_copy_34 lfX8_286 (by omega) (ct_shelf (by omega)) rfl ?_
      refine z_if_eq (tgt := 48) b dX8_copy_37 (by decide) (by omega) (fun c37 => ?_) (fun c37 => ?_)
      · exfalso; omega
      · refine w_aload b dX8_copy_40 rfl rfl ?_
        refine q_get b dX8_copy_42 lfX8_286 (by omega) (ct_shelf (by omega)) rfl ?_
        refine z_if_ne (tgt := 51) b dX8_copy_45 (by decide) (by omega) (fun c45 => ?_) (fun c45 => ?_)
        · refine w_aload b dX8_copy_51 rfl rfl ?_
          refine c_V0 b dX8_copy_53 lmX8_271 (cpS (by omega) (ct_shelf (by omega))) (k_X4_holdsRow (by omega) (by omega)) (tle rfl) (by omega) (by omega) (by omega) ?_
          refine z_ifb_eq (tgt := 72) b dX8_copy_56 (by decide) (fun c56 => ?_) (fun c56 => ?_)
          · exfalso; omega
          · refine w_aload b dX8_copy_59 rfl rfl ?_
            refine q_get b dX8_copy_61 lfX8_286 (by omega) (ct_shelf (by omega)) rfl ?_
            refine w_aload b dX8_copy_64 rfl rfl ?_
            refine q_get b dX8_copy_66 lfX8_286 (by omega) (ct_shelf (by omega)) rfl ?_
            refine z_icmp_eq (tgt := 75) b dX8_copy_69 (by decide) (by omega) (fun c69 => ?_) (fun c69 => ?_)
            · refine w_aload b dX8_copy_75 rfl rfl ?_
              refine w_iload_n b dX8_copy_77 rfl ?_
              refine w_iload b dX8_copy_78 rfl ?_
              refine c_V2 b dX8_copy_80 lmX8_287 (cpS (by omega) (ct_shelf (by omega))) (k_X4_hasPlaces (by omega) (by omega) (by omega) (by omega)) (tle rfl) (by omega) (by omega) (by omega) ?_
              refine z_ifb_eq (tgt := 98) b dX8_copy_83 (by decide) (fun c83 => ?_) (fun c83 => ?_)
              · exfalso; omega
              · refine w_aload b dX8_copy_86 rfl rfl ?_
                refine w_iload b dX8_copy_88 rfl ?_
                refine w_iload b dX8_copy_90 rfl ?_
                refine c_V2 b dX8_copy_92 lmX8_287 (cpS (by omega) (ct_shelf (by omega))) (k_X4_hasPlaces (by omega) (by omega) (by omega) (by omega)) (tle rfl) (by omega) (by omega) (by omega) ?_
                refine z_ifb_ne (tgt := 101) b dX8_copy_95 (by decide) (fun c95 => ?_) (fun c95 => ?_)
                · refine w_aload b dX8_copy_101 rfl rfl ?_
                  refine q_get b dX8_copy_103 lfX8_282 (by omega) (ct_shelf (by omega)) rfl ?_
                  refine w_iload_n b dX8_copy_106 rfl ?_
                  refine w_aload b dX8_copy_107 rfl rfl ?_
                  refine q_get b dX8_copy_109 lfX8_282 (by omega) (ct_shelf (by omega)) rfl ?_
                  refine w_iload b dX8_copy_112 rfl ?_
                  refine w_iload b dX8_copy_114 rfl ?_
                  refine z_copyS b dX8_copy_116 lw_acX (cpS1 (by omega) (ct_shelf1 (by omega))) (cpS1 (by omega) (ct_shelf1 (by omega))) (by omega) (by omega) (fun x g1 g2 => hel _ (by omega) x (by omega) (by omega)) (by omega) (by simp) ?_
                  refine ww_cast (σ' := (cp w C (va_up A (241 + 2 * e.toNat + 1) (cpyF (A (241 + 2 * d.toNat + 1)) (A (241 + 2 * e.toNat + 1)) i j n)) V h, nx)) rfl rfl (by show (va_up (cp w C A V h) (241 + 2 * e.toNat + 1) _, nx) = _; rw [← ct_shelf1 (w := w) (c := C (241 + 2 * e.toNat + 1)) (v := V (241 + 2 * e.toNat + 1)) (show e.toNat < 8 by omega), cp_upA (by omega)]) ?_
                  refine w_iload b dX8_copy_119 rfl ?_
                  exact w_iret b dX8_copy_121 rfl (by omega) (by omega) ⟨iv_eq (by first | rfl | omega | ((try simp only [b2]); ((repeat' split) <;> (first | rfl | omega)))), rfl⟩
                · exfalso; omega
            · exfalso; omega
        · exfalso; omega
    · exfalso; omega
