/-! THE FRAMEWORK. Every method's world is the whole world: cells numbered from the base gB on, in the order in which they were made; a reference in the picture is a cell's number; '.float 0' stands for ArrayList's empty static array, '.float 1' for the law's script, '.float 2' for the class object of Object[]. WW: the machine at a frame of the picture; MM: a method's contract over pictures. -/
abbrev Gw : Type := (Nat → ClassId) × (Nat → Nat → Nat) × (Nat → ClassId) × Nat × Nat × Nat × Nat × (Nat → Int32) × Nat
def gD (g : Gw) : va_G := (g.1, g.2.1)
def gA (g : Gw) : Nat → ClassId := g.2.2.1
def gB (g : Gw) : Nat := g.2.2.2.1
def gE (g : Gw) : Nat := g.2.2.2.2.1
def gS (g : Gw) : Nat := g.2.2.2.2.2.1
def gL (g : Gw) : Nat := g.2.2.2.2.2.2.1
def gX (g : Gw) : Nat → Int32 := g.2.2.2.2.2.2.2.1
def gM (g : Gw) : Nat := g.2.2.2.2.2.2.2.2
abbrev Sg : Type := (Nat → va_E) × Nat
abbrev Md : Type := MethodName × ByteArray × Nat × Option FieldType
def fw_TE : u_T := fun _ => ("", "", "", false)
abbrev kcls : List vw_C := [(RX0, TX0, 9), (RX1, TX1, 6), (RX2, TX2, 1), (RX3, TX3, 5), (RX4, TX4, 4), (RX5, TX5, 3), (RX6, TX6, 8), (RX7, TX7, 3), (RX8, TX8, 5), (RX9, TX9, 42), (RJx4a65c, TJx4a65c, 3), ("java/lang/IllegalArgumentException", fw_TE, 0), ("java/lang/IllegalStateException", fw_TE, 0)]
def cv (g : Gw) (v : Value) : Value := match v with
  | .ref k => .ref (gB g + k)
  | .float x => .ref (if x = 0 then gE g else if x = 2 then gM g else gS g)
  | .int x => .int x
  | .long x => .long x
  | .double x => .double x
  | .null => .null
  | .retAddr p => .retAddr p
def ce (g : Gw) (c : va_E) : va_E := match c with
  | .inr (ci, fs) => .inr (ci, fs.map (cv g))
  | .inl (t, n, .inl f) => .inl (gA g t, n, .inl f)
  | .inl (t, n, .inr (.inl f)) => .inl (gA g t, n, .inr (.inl f))
  | .inl (t, n, .inr (.inr (.inl f))) => .inl (gA g t, n, .inr (.inr (.inl f)))
  | .inl (t, n, .inr (.inr (.inr (.inl f)))) => .inl (gA g t, n, .inr (.inr (.inr (.inl f))))
  | .inl (t, n, .inr (.inr (.inr (.inr f)))) => .inl (gA g t, n, .inr (.inr (.inr (.inr (fun j => (f j).map (fun k => gB g + k))))))
def nilE : va_E := .inr (1000, [])
def wd (g : Gw) (h : Nat → va_E) (n : Nat) : va_W := (List.range n).map (fun k => (gB g + k, ce g (h k)))
def gF (g : Gw) : Nat → Prop := fun q => gB g ≤ q
def RH (g : Gw) (σ : Sg) (H : Heap) : Prop := H.size = gB g + σ.2 ∧ (∀ k, σ.2 ≤ k → σ.1 k = nilE) ∧ va_P (gD g) kcls (wd g σ.1 σ.2) H
abbrev tyl (g : Gw) : List (ClassId × FieldType) := [(gA g 0, .int), (gA g 1, .byte), (gA g 2, .short), (gA g 3, .long), (gA g 4, .object "java/lang/Object"), (gA g 5, .object RX7), (gA g 6, .object RX3), (gA g 7, .object RX4)]
def nestW : List Cond := [.methodLinkNest RX1 34 yX7_init RX8, .methodLinkNest RX8 39 yX6_init RX8, .methodLinkNest RX8 50 yX4_init RX8, .methodLinkNest RX0 53 yX2_init RX8, .methodLinkNest RX0 138 yX8_isWithin RX8]
def aoC : List String := ["java/lang/Object", RX7, RX3, RX4]
def caC : List String := [RX2, RX5]
def iaE : String := "java/lang/IllegalArgumentException"
def isE : String := "java/lang/IllegalStateException"
def exN : List String := ["java/lang/RuntimeException", "java/lang/Exception"]
def gcM : MethodName := ⟨"java/lang/Object", "getClass", "()Ljava/lang/Class;"⟩
/-- the String constants of the class's own throws -/
def strW : List (String × Nat × String) := [(RX5, 30, "the failure of a step"), (RX8, 266, "no such shelf"), (RX8, 279, "no such place of a row on this shelf")]
/-- words of throws and catches that bodies must carry themselves -/
def cdW : List Cond := (vx_atS RX5 32 isE exN ++ (vx_atS RX8 268 iaE exN ++ vx_atS RX8 281 isE exN)).filter (fun w => !goodWord w) ++ [.castable iaE iaE, .castable isE isE, .declares gcM]
theorem cdW_ok : ∀ w ∈ cdW, w.faceAtom = true ∧ w.onTables = true := by
  have h : cdW.all (fun w => w.faceAtom && w.onTables) = true := by decide +kernel
  intro w hw
  have := List.all_eq_true.mp h w hw
  simpa [Bool.and_eq_true] using this
def KX (g : Gw) (U : State) : Prop := va_Mi "[Ljava/lang/Object;" (gM g) U ∧ (∀ q ∈ strW, ∃ sa, vk_R q.1 q.2.1 q.2.2 sa U) ∧ (∀ w ∈ cdW, va_Nw w U) ∧ va_Nc isE iaE U
theorem KX.warm {g : Gw} {s U : State} (hW : s.WarmedH U.vm) (h : KX g s) : KX g U := by
  obtain ⟨h1, h2, h3, h4⟩ := h
  refine ⟨h1.moved hW.alike, fun q hq => ?_, fun w hw => ?_, h4.moved hW.alike⟩
  · obtain ⟨sa, h5⟩ := h2 q hq
    exact ⟨sa, h5.warm hW⟩
  · exact va_tabs (cdW_ok w hw).2 (rfl : (s.setVm U.vm).vm = U.vm) (Cond.faceAtom_setVm hW.alike w (cdW_ok w hw).1 (h3 w hw))
theorem KX.same {g : Gw} {s U : State} (hv : s.vm = U.vm) (h : KX g s) : KX g U := by
  obtain ⟨h1, h2, h3, h4⟩ := h
  refine ⟨h1.moved (by rw [hv]; exact Vm.Alike.refl U.vm), fun q hq => ?_, fun w hw => (h3 w hw).same (cdW_ok w hw).2 hv, h4.moved (by rw [hv]; exact Vm.Alike.refl U.vm)⟩
  obtain ⟨sa, h5⟩ := h2 q hq
  exact ⟨sa, vk_R.same hv.symm h5⟩
def KW (g : Gw) (U : State) : Prop := va_K (gD g) kcls (tyl g) U ∧ (∀ w ∈ nestW, va_Nw w U) ∧ (∀ C ∈ aoC, va_AO C U) ∧ (∀ C ∈ caC, va_Nw (.castable C "java/lang/Object") U) ∧ KX g U
def SW (g : Gw) (U : State) (H : Heap) : Prop := va_Z "java/util/ArrayList" "DEFAULTCAPACITY_EMPTY_ELEMENTDATA" "[Ljava/lang/Object;" (.ref (gE g)) (gF g) U H ∧ va_T (.object "java/lang/Object") (gE g) 0 (fun _ => .null) (gF g) U H ∧ va_X (gS g) (gL g) (gX g) U H ∧ gS g < gB g ∧ gE g < gB g ∧ vx_Zq Bundle.tN "UNASSIGNED_STACK" Bundle.steD (gF g) U H ∧ vx_Zq Bundle.tN "SUPPRESSED_SENTINEL" Bundle.listD (gF g) U H
def gw : List Cond := lw_tbl.filter goodWord
def wsm (μ : Md) : List Cond := .code μ.1 μ.2.1 μ.2.2.1 μ.2.2.2 :: gw
def rmm (d mc ms : Nat) : Room := { frames := d, cells := mc, slots := ms, locals := 40 * d }
def Pm (g : Gw) (σ : Sg) (vs : List Value) : Array Value → State → Prop := fun v U => v = (vs.map (cv g)).toArray ∧ RH g σ U.heap ∧ KW g U ∧ SW g U U.heap
def Qm (g : Gw) (Q : Option Value → Sg → Prop) : Array Value → State → Outcome → State → Prop := fun _ st oc t => (∃ (r : Option Value) (σ' : Sg), oc = .returned (r.map (cv g)) ∧ Q r σ' ∧ RH g σ' t.heap) ∧ va_F (gF g) st t
def MM (l : Launch) (g : Gw) (d : Nat) (μ : Md) (σ : Sg) (vs : List Value) (mc ms : Nat) (Q : Option Value → Sg → Prop) : Prop := Met l μ.1 (wsm μ) (rmm d mc ms) (Pm g σ vs) (Qm g Q) mc ms (gF g)
abbrev Cx : Type := Program × Launch × Env × Room × State × MethodId × Array Value × List Frame × Method × Code
def LH (g : Gw) (ls : Array Slot) (nL : Nat) (L : List (Option Value)) : Prop := ls.size = nL ∧ L.length = nL ∧ lv_wf ls ∧ ∀ (i : Nat) (v : Value), L[i]? = some (some v) → ls[i]? = some (.val (cv g v))
def XS (X : Cx) : State := X.2.2.2.2.1
def WW (X : Cx) (g : Gw) (nL : Nat) (Z : State → Prop) (kc ks pc : Nat) (L : List (Option Value)) (st : List Value) (σ : Sg) : Prop := match X with
  | (p, l, e, R, s, m, args, below, meth, c) => ∀ (H : Heap) (locs : List Loc) (ls : Array Slot), RH g σ H → va_S (gF g) s.heap H locs → LH g ls nL L → W p l e R s m args below meth c H locs kc ks Z (F0 m pc ls (st.map (cv g)))
/-- what is fixed in a body -/
def BX (X : Cx) (l0 : Launch) (g : Gw) (μ : Md) (d mc ms : Nat) : Prop := match X with
  | (p, l, e, R, s, m, args, below, meth, c) => l = l0 ∧ p.tables.exec = Jvm.exec ∧ c.code = μ.2.1 ∧ c.maxLocals = μ.2.2.1 ∧ meth.sig.returnType = μ.2.2.2 ∧ meth.locks = false ∧ meth.name = μ.1.name ∧ s.vm.findClass μ.1.cls = some m.cls ∧ (∀ w ∈ gw, w.before args s = true) ∧ KW g s ∧ SW g s s.heap ∧ gB g ≤ s.heap.size ∧ d ≤ R.frames ∧ 40 * d ≤ R.locals ∧ mc = R.cells ∧ ms = R.slots
/-! ===== pictures ===== -/
theorem cv_cat (g : Gw) (v : Value) : (cv g v).category = v.category := by cases v <;> rfl
theorem cv_cats (g : Gw) (l : List Value) : ((l.map (cv g)).map fun v => v.category).sum = (l.map fun v => v.category).sum := by
  rw [List.map_map]
  congr 1
  exact List.map_congr_left (fun v _ => cv_cat g v)
theorem wd_get {g : Gw} {h : Nat → va_E} {n k : Nat} (hk : k < n) : (wd g h n)[k]? = some (gB g + k, ce g (h k)) := by
  simp [wd, hk]
theorem wd_len (g : Gw) (h : Nat → va_E) (n : Nat) : (wd g h n).length = n := by simp [wd]
theorem wd_set {g : Gw} {h : Nat → va_E} {n k : Nat} (c : va_E) (_hk : k < n) : (wd g h n).set k (gB g + k, ce g c) = wd g (va_up h k c) n := by
  apply List.ext_getElem?
  intro i
  by_cases hi : i < n
  · by_cases hik : i = k
    · subst hik
      rw [List.getElem?_set_self (by rw [wd_len]; exact hi), wd_get hi, va_up_self]
    · rw [List.getElem?_set_ne (Ne.symm hik), wd_get hi, wd_get hi, va_up_ne _ _ hik]
  · rw [List.getElem?_eq_none (by rw [List.length_set, wd_len]; omega), List.getElem?_eq_none (by rw [wd_len]; omega)]
theorem wd_push (g : Gw) (h : Nat → va_E) (n : Nat) (c : va_E) : wd g h n ++ [(gB g + n, ce g c)] = wd g (va_up h n c) (n + 1) := by
  apply List.ext_getElem?
  intro i
  by_cases hi : i < n
  · rw [List.getElem?_append_left (by rw [wd_len]; exact hi), wd_get hi, wd_get (by omega), va_up_ne _ _ (by omega)]
  · rw [List.getElem?_append_right (by rw [wd_len]; omega), wd_len]
    by_cases he : i = n
    · subst he
      rw [wd_get (by omega), va_up_self, Nat.sub_self]
      rfl
    · rw [List.getElem?_eq_none (by simp; omega), List.getElem?_eq_none (by rw [wd_len]; omega)]
theorem wd_D (g : Gw) (h : Nat → va_E) (n : Nat) : va_D (gF g) (wd g h n) := by
  refine ⟨fun i j p q hp hq hpq => ?_, fun k q hq => ?_⟩
  · have h1 := (List.getElem?_eq_some_iff.mp hp).1
    have h2 := (List.getElem?_eq_some_iff.mp hq).1
    rw [wd_len] at h1 h2
    rw [wd_get h1] at hp
    rw [wd_get h2] at hq
    cases hp; cases hq
    exact Nat.add_left_cancel hpq
  · have h1 := (List.getElem?_eq_some_iff.mp hq).1
    rw [wd_len] at h1
    rw [wd_get h1] at hq
    cases hq
    exact Nat.le_add_right _ _
theorem RH.lt {g : Gw} {σ : Sg} {H : Heap} (h : RH g σ H) {k : Nat} {c : va_E} (hc : σ.1 k = c) (hn : c ≠ nilE) : k < σ.2 := by
  rcases Nat.lt_or_ge k σ.2 with q | q
  · exact q
  · exact absurd ((hc.symm).trans (h.2.1 k q)) hn
theorem RH.at {g : Gw} {σ : Sg} {H : Heap} (h : RH g σ H) {k : Nat} {c : va_E} (hc : σ.1 k = c) (hn : c ≠ nilE) : (wd g σ.1 σ.2)[k]? = some (gB g + k, ce g c) := by
  rw [wd_get (h.lt hc hn), hc]
theorem RH.up {g : Gw} {σ : Sg} {H H1 : Heap} (h : RH g σ H) {k : Nat} {c c1 : va_E} (hc : σ.1 k = c) (hn : c ≠ nilE) (hz : H1.size = H.size) (hP : va_P (gD g) kcls ((wd g σ.1 σ.2).set k (gB g + k, ce g c1)) H1) : RH g (va_up σ.1 k c1, σ.2) H1 := by
  have hk := h.lt hc hn
  rw [wd_set c1 hk] at hP
  refine ⟨by rw [hz]; exact h.1, fun j hj => ?_, hP⟩
  have hj' : σ.2 ≤ j := hj
  show va_up σ.1 k c1 j = nilE
  rw [va_up_ne _ _ (by omega)]
  exact h.2.1 j hj'
theorem RH.push {g : Gw} {σ : Sg} {H H1 : Heap} (h : RH g σ H) (c : va_E) (hz : H1.size = H.size + 1) (hP : va_P (gD g) kcls (wd g σ.1 σ.2 ++ [(gB g + σ.2, ce g c)]) H1) : RH g (va_up σ.1 σ.2 c, σ.2 + 1) H1 := by
  rw [wd_push] at hP
  refine ⟨by rw [hz, h.1]; exact Nat.add_assoc _ _ _, fun j hj => ?_, hP⟩
  have hj' : σ.2 + 1 ≤ j := hj
  show va_up σ.1 σ.2 c j = nilE
  rw [va_up_ne _ _ (by omega)]
  exact h.2.1 j (by omega)
theorem neI {x : ClassId × vp_A} : (Sum.inl x : va_E) ≠ nilE := fun h => by cases h
theorem neO {ci : Nat} {fs : List Value} {q : vw_C} (h : kcls[ci]? = some q) : (Sum.inr (ci, fs) : va_E) ≠ nilE := by
  intro z
  cases z
  cases h
theorem KW.warm {g : Gw} {s U : State} (hW : s.WarmedH U.vm) (h : KW g s) : KW g U := by
  refine ⟨va_K.moved hW.alike h.1, fun w hw => ?_, fun C hC => va_AO.moved hW.alike (h.2.2.1 C hC), fun C hC => va_Nw.warmC hW (h.2.2.2.1 C hC), h.2.2.2.2.warm hW⟩
  have h1 := h.2.1 w hw
  simp only [nestW, List.mem_cons, List.not_mem_nil, or_false] at hw
  rcases hw with rfl | rfl | rfl | rfl | rfl <;> exact va_Nw.warmM hW h1
theorem KW.same {g : Gw} {s U : State} (hv : s.vm = U.vm) (h : KW g s) : KW g U := by
  refine ⟨va_K.moved (by rw [hv]; exact Vm.Alike.refl U.vm) h.1, fun w hw => ?_, fun C hC => va_AO.moved (by rw [hv]; exact Vm.Alike.refl U.vm) (h.2.2.1 C hC), fun C hC => va_Nw.same rfl hv (h.2.2.2.1 C hC), h.2.2.2.2.same hv⟩
  have h1 := h.2.1 w hw
  simp only [nestW, List.mem_cons, List.not_mem_nil, or_false] at hw
  rcases hw with rfl | rfl | rfl | rfl | rfl <;> exact va_Nw.same rfl hv h1
theorem SW.moved {g : Gw} {s U : State} {H0 H : Heap} (hvm : s.vm.Alike U.vm) (hq : ∀ a : Nat, a < H0.size → ¬ gF g a → H[a]? = H0[a]?) (hB : gB g ≤ H0.size) (h : SW g s H0) : SW g U H := by
  obtain ⟨h1, h2, h3, h4, h5, h6, h7⟩ := h
  exact ⟨(h1.kept hq).moved hvm, (h2.kept hq).moved hvm, (h3.kept (hq _ (by omega) (by unfold gF; omega))).moved hvm, h4, h5, (h6.kept hq).moved hvm, (h7.kept hq).moved hvm⟩
