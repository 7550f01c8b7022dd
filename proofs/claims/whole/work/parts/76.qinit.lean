/-! THE CLASS: its constructors (by p76.py) -/
set_option maxRecDepth 20000 in
theorem k_X7_init {l0 : Launch} {g : Gw} {σ : Sg} {q : Nat}  (hq : σ.1 q = .inr (7, [.null, .null, .int 0])) (hqn : q < σ.2)  : MD l0 g 1 mX7_init σ [.ref q] 2 20 (none) (va_up (va_up (va_up (σ.1) (σ.2) (iarr 0 10 (fun _ => 0))) (σ.2 + 1) (iarr 0 10 (fun _ => 0))) q (.inr (7, [.ref σ.2, .ref (σ.2 + 1), .int 0])), σ.2 + 2) := by
  refine MD.of (by decide +kernel) (by simp [Value.category]) (tle rfl) (fun X b => ?_)
  change WW X g _ _ 0 0 0 [some (.ref q)] [] _
  refine w_aload_n b dX7_init_0 rfl rfl ?_
  refine w_objInit b dX7_init_1 loX7_3 lo_inst lo_code (tle rfl) (by omega) ?_
  refine w_aload_n b dX7_init_4 rfl rfl ?_
  refine z_bipush b dX7_init_5 (by decide) ?_
  refine z_newa (t := 0) (N := 10) b dX7_init_7 la_int (by omega) rfl (by omega) (by omega) (by omega) ?_
  refine w_putf b dX7_init_9 lfX7_9 gcX7 gtX7_0 (fun _ => rfl) ((va_up_ne _ _ (by omega)).trans hq) (tlt rfl) rfl rfl ?_
  refine w_aload_n b dX7_init_12 rfl rfl ?_
  refine z_bipush b dX7_init_13 (by decide) ?_
  refine z_newa (t := 0) (N := 10) b dX7_init_15 la_int (by omega) rfl (by omega) (by omega) (by omega) ?_
  refine w_putf b dX7_init_17 lfX7_15 gcX7 gtX7_1 (fun _ => rfl) ((va_up_ne _ _ (by omega)).trans (va_up_self _ _ _)) (tlt rfl) rfl rfl ?_
  exact w_vret b dX7_init_20 rfl (by omega) (by omega) ⟨rfl, Prod.ext (funext fun j => by simp only [va_up]; (repeat' split) <;> first | rfl | omega) rfl⟩
set_option maxRecDepth 20000 in
theorem k_X3_init {l0 : Launch} {g : Gw} {σ : Sg} {q : Nat} {w : Nat} (hq : σ.1 q = .inr (3, [.null, .null, .null, .null, .int 0])) (hqn : q < σ.2) (hw : w ≤ 40) : MD l0 g 1 mX3_init σ [.ref q, .int (iI (w : Int))] 4 160 (none) (va_up (va_up (va_up (va_up (va_up (σ.1) (σ.2) (iarr 1 w (fun _ => 0))) (σ.2 + 1) (iarr 1 w (fun _ => 0))) (σ.2 + 2) (iarr 1 w (fun _ => 0))) (σ.2 + 3) (iarr 1 w (fun _ => 0))) q (.inr (3, [.ref σ.2, .ref (σ.2 + 1), .ref (σ.2 + 2), .ref (σ.2 + 3), .int 0])), σ.2 + 4) := by
  refine MD.of (by decide +kernel) (by simp [Value.category]) (tle rfl) (fun X b => ?_)
  change WW X g _ _ 0 0 0 [some (.ref q), some (.int (iI (w : Int)))] [] _
  refine w_aload_n b dX3_init_0 rfl rfl ?_
  refine w_objInit b dX3_init_1 loX3_1 lo_inst lo_code (tle rfl) (by omega) ?_
  refine w_aload_n b dX3_init_4 rfl rfl ?_
  refine w_iload_n b dX3_init_5 rfl ?_
  refine z_newa (t := 1) (N := w) b dX3_init_6 la_byte (by omega) rfl (by omega) (by omega) (by omega) ?_
  refine w_putf b dX3_init_8 lfX3_7 gcX3 gtX3_0 (fun _ => rfl) ((va_up_ne _ _ (by omega)).trans hq) (tlt rfl) rfl rfl ?_
  refine w_aload_n b dX3_init_11 rfl rfl ?_
  refine w_iload_n b dX3_init_12 rfl ?_
  refine z_newa (t := 1) (N := w) b dX3_init_13 la_byte (by omega) rfl (by omega) (by omega) (by omega) ?_
  refine w_putf b dX3_init_15 lfX3_13 gcX3 gtX3_1 (fun _ => rfl) ((va_up_ne _ _ (by omega)).trans (va_up_self _ _ _)) (tlt rfl) rfl rfl ?_
  refine w_aload_n b dX3_init_18 rfl rfl ?_
  refine w_iload_n b dX3_init_19 rfl ?_
  refine z_newa (t := 1) (N := w) b dX3_init_20 la_byte (by omega) rfl (by omega) (by omega) (by omega) ?_
  refine w_putf b dX3_init_22 lfX3_16 gcX3 gtX3_2 (fun _ => rfl) ((va_up_ne _ _ (by omega)).trans (va_up_self _ _ _)) (tlt rfl) rfl rfl ?_
  refine w_aload_n b dX3_init_25 rfl rfl ?_
  refine w_iload_n b dX3_init_26 rfl ?_
  refine z_newa (t := 1) (N := w) b dX3_init_27 la_byte (by omega) rfl (by omega) (by omega) (by omega) ?_
  refine w_putf b dX3_init_29 lfX3_19 gcX3 gtX3_3 (fun _ => rfl) ((va_up_ne _ _ (by omega)).trans (va_up_self _ _ _)) (tlt rfl) rfl rfl ?_
  exact w_vret b dX3_init_32 rfl (by omega) (by omega) ⟨rfl, Prod.ext (funext fun j => by simp only [va_up]; (repeat' split) <;> first | rfl | omega) rfl⟩
set_option maxRecDepth 20000 in
theorem k_X4_init {l0 : Launch} {g : Gw} {σ : Sg} {q : Nat}  (hq : σ.1 q = .inr (4, [.null, .int 0, .int 0, .null])) (hqn : q < σ.2)  : MD l0 g 1 mX4_init σ [.ref q] 1 60 (none) (va_up (va_up (σ.1) (σ.2) (iarr 2 60 (fun _ => 0))) q (.inr (4, [.ref σ.2, .int (iI 0), .int 0, .null])), σ.2 + 1) := by
  refine MD.of (by decide +kernel) (by simp [Value.category]) (tle rfl) (fun X b => ?_)
  change WW X g _ _ 0 0 0 [some (.ref q)] [] _
  refine w_aload_n b dX4_init_0 rfl rfl ?_
  refine w_objInit b dX4_init_1 loX4_3 lo_inst lo_code (tle rfl) (by omega) ?_
  refine w_aload_n b dX4_init_4 rfl rfl ?_
  refine z_bipush b dX4_init_5 (by decide) ?_
  refine z_newa (t := 2) (N := 60) b dX4_init_7 la_short (by omega) rfl (by omega) (by omega) (by omega) ?_
  refine w_putf b dX4_init_9 lfX4_9 gcX4 gtX4_0 (fun _ => rfl) ((va_up_ne _ _ (by omega)).trans hq) (tlt rfl) rfl rfl ?_
  refine w_aload_n b dX4_init_12 rfl rfl ?_
  refine z_iconst b dX4_init_13 ?_
  refine w_putf b dX4_init_14 lfX4_15 gcX4 gtX4_1 (fun z => by cases z) (va_up_self _ _ _) (tlt rfl) rfl rfl ?_
  exact w_vret b dX4_init_17 rfl (by omega) (by omega) ⟨rfl, Prod.ext (funext fun j => by simp only [va_up]; (repeat' split) <;> first | rfl | omega) rfl⟩
set_option maxRecDepth 20000 in
theorem k_X6_init {l0 : Launch} {g : Gw} {σ : Sg} {q : Nat}  (hq : σ.1 q = .inr (6, [.null, .null, .null, .null, .null, .int 0, .int 0, .int 0])) (hqn : q < σ.2)  : MD l0 g 1 mX6_init σ [.ref q] 5 152 (none) (va_up (va_up (va_up (va_up (va_up (va_up (σ.1) (σ.2) (iarr 0 8 (fun _ => 0))) (σ.2 + 1) (iarr 0 8 (fun _ => 0))) (σ.2 + 2) (iarr 0 64 (fun _ => 0))) (σ.2 + 3) (iarr 0 64 (fun _ => 0))) (σ.2 + 4) (iarr 0 8 (fun _ => 0))) q (.inr (6, [.ref σ.2, .ref (σ.2 + 1), .ref (σ.2 + 2), .ref (σ.2 + 3), .ref (σ.2 + 4), .int 0, .int 0, .int 0])), σ.2 + 5) := by
  refine MD.of (by decide +kernel) (by simp [Value.category]) (tle rfl) (fun X b => ?_)
  change WW X g _ _ 0 0 0 [some (.ref q)] [] _
  refine w_aload_n b dX6_init_0 rfl rfl ?_
  refine w_objInit b dX6_init_1 loX6_3 lo_inst lo_code (tle rfl) (by omega) ?_
  refine w_aload_n b dX6_init_4 rfl rfl ?_
  refine z_bipush b dX6_init_5 (by decide) ?_
  refine z_newa (t := 0) (N := 8) b dX6_init_7 la_int (by omega) rfl (by omega) (by omega) (by omega) ?_
  refine w_putf b dX6_init_9 lfX6_9 gcX6 gtX6_0 (fun _ => rfl) ((va_up_ne _ _ (by omega)).trans hq) (tlt rfl) rfl rfl ?_
  refine w_aload_n b dX6_init_12 rfl rfl ?_
  refine z_bipush b dX6_init_13 (by decide) ?_
  refine z_newa (t := 0) (N := 8) b dX6_init_15 la_int (by omega) rfl (by omega) (by omega) (by omega) ?_
  refine w_putf b dX6_init_17 lfX6_15 gcX6 gtX6_1 (fun _ => rfl) ((va_up_ne _ _ (by omega)).trans (va_up_self _ _ _)) (tlt rfl) rfl rfl ?_
  refine w_aload_n b dX6_init_20 rfl rfl ?_
  refine z_bipush b dX6_init_21 (by decide) ?_
  refine z_newa (t := 0) (N := 64) b dX6_init_23 la_int (by omega) rfl (by omega) (by omega) (by omega) ?_
  refine w_putf b dX6_init_25 lfX6_18 gcX6 gtX6_2 (fun _ => rfl) ((va_up_ne _ _ (by omega)).trans (va_up_self _ _ _)) (tlt rfl) rfl rfl ?_
  refine w_aload_n b dX6_init_28 rfl rfl ?_
  refine z_bipush b dX6_init_29 (by decide) ?_
  refine z_newa (t := 0) (N := 64) b dX6_init_31 la_int (by omega) rfl (by omega) (by omega) (by omega) ?_
  refine w_putf b dX6_init_33 lfX6_21 gcX6 gtX6_3 (fun _ => rfl) ((va_up_ne _ _ (by omega)).trans (va_up_self _ _ _)) (tlt rfl) rfl rfl ?_
  refine w_aload_n b dX6_init_36 rfl rfl ?_
  refine z_bipush b dX6_init_37 (by decide) ?_
  refine z_newa (t := 0) (N := 8) b dX6_init_39 la_int (by omega) rfl (by omega) (by omega) (by omega) ?_
  refine w_putf b dX6_init_41 lfX6_24 gcX6 gtX6_4 (fun _ => rfl) ((va_up_ne _ _ (by omega)).trans (va_up_self _ _ _)) (tlt rfl) rfl rfl ?_
  exact w_vret b dX6_init_44 rfl (by omega) (by omega) ⟨rfl, Prod.ext (funext fun j => by simp only [va_up]; (repeat' split) <;> first | rfl | omega) rfl⟩
set_option maxRecDepth 20000 in
theorem k_X0_init {l0 : Launch} {g : Gw} {σ : Sg} {q : Nat} {w : Nat} (hq : σ.1 q = .inr (0, [.int 0, .null, .null, .null, .null, .int 0, .int 0, .int 0, .int 0])) (hqn : q < σ.2)  : MD l0 g 4 mX0_init σ [.ref q, .int (iI (w : Int)), .ref 1] 3 1015 (none) (va_up (va_up (va_up (va_up (σ.1) (σ.2) (.inr (10, [.int (iI 0), .float 0, .int (iI 0)]))) (σ.2 + 1) (iarr 1 1000 (fun _ => 0))) (σ.2 + 2) (iarr 0 12 (fun _ => 0))) q (.inr (0, [.int (iI (w : Int)), .ref 1, .ref σ.2, .ref (σ.2 + 1), .ref (σ.2 + 2), .int 0, .int 0, .int 0, .int 0])), σ.2 + 3) := by
  refine MD.of (by decide +kernel) (by simp [Value.category]) (tle rfl) (fun X b => ?_)
  change WW X g _ _ 0 0 0 [some (.ref q), some (.int (iI (w : Int))), some (.ref 1)] [] _
  refine w_aload_n b dX0_init_0 rfl rfl ?_
  refine w_objInit b dX0_init_1 loX0_3 lo_inst lo_code (tle rfl) (by omega) ?_
  refine w_aload_n b dX0_init_4 rfl rfl ?_
  refine w_new b dX0_init_5 lnX0_9 (by omega) (by simp <;> omega) ?_
  change WW X g _ _ _ (0 + 3) _ _ _ _
  refine w_dup b dX0_init_8 rfl ?_
  refine c_I0 b dX0_init_9 lmX0_11 (k_listInit (va_up_self _ _ _)) (tle rfl) (by omega) (by omega) (by omega) ?_
  refine w_putf b dX0_init_12 lfX0_12 gcX0 gtX0_2 (fun _ => rfl) ((va_up_ne _ _ (by omega)).trans ((va_up_ne _ _ (by omega)).trans hq)) (tlt rfl) rfl rfl ?_
  refine w_aload_n b dX0_init_15 rfl rfl ?_
  refine z_sipush b dX0_init_16 (by decide) ?_
  refine z_newa (t := 1) (N := 1000) b dX0_init_19 la_byte (by omega) rfl (by omega) (by omega) (by omega) ?_
  refine w_putf b dX0_init_21 lfX0_18 gcX0 gtX0_3 (fun _ => rfl) ((va_up_ne _ _ (by omega)).trans (va_up_self _ _ _)) (tlt rfl) rfl rfl ?_
  refine w_aload_n b dX0_init_24 rfl rfl ?_
  refine z_bipush b dX0_init_25 (by decide) ?_
  refine z_newa (t := 0) (N := 12) b dX0_init_27 la_int (by omega) rfl (by omega) (by omega) (by omega) ?_
  refine w_putf b dX0_init_29 lfX0_22 gcX0 gtX0_4 (fun _ => rfl) ((va_up_ne _ _ (by omega)).trans (va_up_self _ _ _)) (tlt rfl) rfl rfl ?_
  refine w_aload_n b dX0_init_32 rfl rfl ?_
  refine w_iload_n b dX0_init_33 rfl ?_
  refine w_putf b dX0_init_34 lfX0_26 gcX0 gtX0_0 (fun _ => rfl) (va_up_self _ _ _) (tlt rfl) rfl rfl ?_
  refine w_aload_n b dX0_init_37 rfl rfl ?_
  refine w_aload_n b dX0_init_38 rfl rfl ?_
  refine w_putf b dX0_init_39 lfX0_30 gcX0 gtX0_1 (fun _ => rfl) (va_up_self _ _ _) (tlt rfl) rfl rfl ?_
  exact w_vret b dX0_init_42 rfl (by omega) (by omega) ⟨rfl, Prod.ext (funext fun j => by simp only [va_up]; (repeat' split) <;> first | rfl | omega) rfl⟩
theorem xor37 {x : Int} (hx : inR x) : (0 : Int32) ≤ iI x ^^^ iI 37 ↔ 0 ≤ x := by
  have h1 : ((iI x ^^^ iI 37 : Int32)).toBitVec.msb = ((iI x).toBitVec.msb ^^ (iI 37).toBitVec.msb) := by
    rw [Int32.toBitVec_xor, BitVec.msb_xor]
  have h37 : (iI 37).toBitVec.msb = false := by decide
  rw [h37, Bool.xor_false, BitVec.msb_eq_toInt, BitVec.msb_eq_toInt] at h1
  have h2 : (iI x).toBitVec.toInt = x := iI_toInt hx
  rw [h2] at h1
  rw [Int32.le_iff_toInt_le]
  show (0 : Int) ≤ (iI x ^^^ iI 37 : Int32).toBitVec.toInt ↔ 0 ≤ x
  have h3 : ((iI x ^^^ iI 37 : Int32).toBitVec.toInt < 0) ↔ (x < 0) := decide_eq_decide.mp h1
  omega
theorem tmod37p (x : Int) (h : 0 ≤ x) : x.tmod 37 = x % 37 := Int.tmod_eq_emod_of_nonneg h
theorem tmod37n (x : Int) (h : x < 0) : (x.tmod 37 = 0 → x % 37 = 0) ∧ (¬ x.tmod 37 = 0 → x.tmod 37 + 37 = x % 37) := by
  have e := Int.mul_tdiv_add_tmod x 37
  have h1 := Int.lt_tmod_of_pos x (show (0 : Int) < 37 by decide)
  have h2 := Int.tmod_nonneg 37 (show 0 ≤ -x by omega)
  rw [Int.neg_tmod] at h2
  exact ⟨fun _ => by omega, fun _ => by omega⟩
set_option maxRecDepth 20000 in
theorem k_floorMod {l0 : Launch} {g : Gw} {σ : Sg} {x : Int} (hx : inR x) : MD l0 g 0 mJ9_floorMod_7cf53 σ [.int (iI (x)), .int (iI (37))] 0 0 (some (.int (iI (x % 37)))) σ := by
  refine MD.ofF (by decide +kernel) (by simp [Value.category]) (tle rfl) (fun X b => ?_)
  change WW X g _ _ 0 0 0 [some (.int (iI (x))), some (.int (iI (37))), none] [] _
  refine w_iload_n b dJ9_floorMod_7cf53_0 rfl ?_
  refine w_iload_n b dJ9_floorMod_7cf53_1 rfl ?_
  refine z_iremT b dJ9_floorMod_7cf53_2 ⟨hx, by omega, by omega⟩ ?_
  refine w_istore_n b dJ9_floorMod_7cf53_3 (tlt rfl) rfl ?_
  refine w_iload_n b dJ9_floorMod_7cf53_4 rfl ?_
  refine w_iload_n b dJ9_floorMod_7cf53_5 rfl ?_
  refine w_ixor b dJ9_floorMod_7cf53_6 ?_
  refine w_if_ge (tgt := 18) b dJ9_floorMod_7cf53_7 (by decide) (fun c7 => ?_) (fun c7 => ?_)
  · have c8 : 0 ≤ x := (xor37 hx).mp c7
    refine w_iload_n b dJ9_floorMod_7cf53_18 rfl ?_
    exact w_iret b dJ9_floorMod_7cf53_19 rfl (by omega) (by omega) ⟨iv_eq (tmod37p x c8), rfl⟩
  · have c8 : x < 0 := by
      rcases Int.lt_or_le x 0 with z | z
      · exact z
      · exact absurd ((xor37 hx).mpr z) c7
    have h1 := Int.lt_tmod_of_pos x (show (0 : Int) < 37 by decide)
    have h2 := Int.tmod_nonneg 37 (show 0 ≤ -x by omega)
    rw [Int.neg_tmod] at h2
    refine w_iload_n b dJ9_floorMod_7cf53_10 rfl ?_
    refine z_if_eq (tgt := 18) b dJ9_floorMod_7cf53_11 (by decide) (by omega) (fun c11 => ?_) (fun c11 => ?_)
    · refine w_iload_n b dJ9_floorMod_7cf53_18 rfl ?_
      exact w_iret b dJ9_floorMod_7cf53_19 rfl (by omega) (by omega) ⟨iv_eq (c11.trans ((tmod37n x c8).1 c11).symm), rfl⟩
    · refine w_iload_n b dJ9_floorMod_7cf53_14 rfl ?_
      refine w_iload_n b dJ9_floorMod_7cf53_15 rfl ?_
      refine z_iadd b dJ9_floorMod_7cf53_16 ?_
      exact w_iret b dJ9_floorMod_7cf53_17 rfl (by omega) (by omega) ⟨iv_eq ((tmod37n x c8).2 c11), rfl⟩
def V0_ : Nat → Value := fun q => if q = 231 then .float 0 else .null
def kp (w n : Nat) (e0 e1 : va_E) (f2 f3 : Int → Int) (e4 e5 e6 : va_E) : Nat → va_E := fun q => if q = 0 then e0 else if q = 1 then e1 else if q = 2 then iarr 0 6 f2 else if q = 3 then iarr 0 6 f3 else if q = 4 then e4 else if q = 5 then e5 else if q = 240 then e6 else if q < n then ct w (fun _ => 0) (fun _ => 0) (V0_ q) q else nilE
def in0 (e0 : va_E) : Nat → va_E := fun q => if q = 0 then e0 else if q = 1 then .inr (1, [.int 0, .null, .null, .null, .null, .int 0]) else nilE
/-- an array of references that is being filled -/
def parr (t n b s k : Nat) : va_E := .inl (t, n, .inr (.inr (.inr (.inr (fun j => if j < k then some (b + s * j) else none)))))
theorem parr_s (t n b s k : Nat) : (Sum.inl (t, n, .inr (.inr (.inr (.inr (va_up (fun j => if j < k then some (b + s * j) else none) k (some (b + s * k))))))) : va_E) = parr t n b s (k + 1) := by
  unfold parr
  refine congrArg (fun z => (Sum.inl (t, n, .inr (.inr (.inr (.inr z)))) : va_E)) (funext fun j => ?_)
  unfold va_up
  by_cases h : j = k
  · rw [if_pos h, if_pos (by omega), h]
  · rw [if_neg h]
    show (if j < k then some (b + s * j) else none) = (if j < k + 1 then some (b + s * j) else none)
    by_cases h2 : j < k
    · rw [if_pos h2, if_pos (by omega)]
    · rw [if_neg h2, if_neg (by omega)]
theorem kp_0 {w n : Nat} {e0 e1 : va_E} {f2 f3 : Int → Int} {e4 e5 e6 : va_E} (e : va_E) : va_up (kp w n e0 e1 f2 f3 e4 e5 e6) 0 e = kp w n e e1 f2 f3 e4 e5 e6 := by
  funext j; unfold va_up kp; (repeat' split) <;> first | rfl | omega
theorem kp_2 {w n : Nat} {e0 e1 : va_E} {f2 f3 : Int → Int} {e4 e5 e6 : va_E} (f : Int → Int) : va_up (kp w n e0 e1 f2 f3 e4 e5 e6) 2 (iarr 0 6 f) = kp w n e0 e1 f f3 e4 e5 e6 := by
  funext j; unfold va_up kp; (repeat' split) <;> first | rfl | omega
theorem kp_3 {w n : Nat} {e0 e1 : va_E} {f2 f3 : Int → Int} {e4 e5 e6 : va_E} (f : Int → Int) : va_up (kp w n e0 e1 f2 f3 e4 e5 e6) 3 (iarr 0 6 f) = kp w n e0 e1 f2 f e4 e5 e6 := by
  funext j; unfold va_up kp; (repeat' split) <;> first | rfl | omega
theorem kp_in {w : Nat} {e0 : va_E} : va_up (va_up (va_up (va_up (va_up (va_up (va_up (va_up (va_up (in0 e0) 2 (iarr 0 6 (fun _ => 0))) 1 (.inr (1, [.int 0, .ref 2, .null, .null, .null, .int 0]))) 3 (iarr 0 6 (fun _ => 0))) 1 (.inr (1, [.int 0, .ref 2, .ref 3, .null, .null, .int 0]))) 4 (parr 5 8 6 3 0)) 1 (.inr (1, [.int 0, .ref 2, .ref 3, .ref 4, .null, .int 0]))) 5 (parr 6 40 30 5 0)) 1 (.inr (1, [.int 0, .ref 2, .ref 3, .ref 4, .ref 5, .int 0]))) 1 (.inr (1, [.int (iI (w : Int)), .ref 2, .ref 3, .ref 4, .ref 5, .int 0])) = kp w 6 e0 (.inr (1, [.int (iI (w : Int)), .ref 2, .ref 3, .ref 4, .ref 5, .int 0])) (fun _ => 0) (fun _ => 0) (parr 5 8 6 3 0) (parr 6 40 30 5 0) nilE := by
  funext j; unfold va_up kp in0; (repeat' split) <;> first | rfl | omega
theorem kp_big {w n q : Nat} {e0 e1 : va_E} {f2 f3 : Int → Int} {e4 e5 e6 : va_E} (h : 6 ≤ q) (h2 : q ≠ 240) (h3 : q < n) : kp w n e0 e1 f2 f3 e4 e5 e6 q = ct w (fun _ => 0) (fun _ => 0) (V0_ q) q := by
  unfold kp
  rw [if_neg (by omega), if_neg (by omega), if_neg (by omega), if_neg (by omega), if_neg (by omega), if_neg (by omega), if_neg h2, if_pos h3]
theorem kp_out {w n q : Nat} {e0 e1 : va_E} {f2 f3 : Int → Int} {e4 e5 : va_E} (h : 6 ≤ q) (h3 : n ≤ q) (h4 : q ≠ 240) {e6 : va_E} : kp w n e0 e1 f2 f3 e4 e5 e6 q = nilE := by
  unfold kp
  rw [if_neg (by omega), if_neg (by omega), if_neg (by omega), if_neg (by omega), if_neg (by omega), if_neg (by omega), if_neg h4, if_neg (by omega)]
/-- the picture grows by cells that are as they stay -/
theorem kp_more {w n n' : Nat} {e0 e1 : va_E} {f2 f3 : Int → Int} {e4 e5 e6 : va_E} {e4' e5' e6' : va_E} {h : Nat → va_E} (hn : 6 ≤ n ∧ n ≤ n') (h4 : h 4 = e4') (h5 : h 5 = e5') (h6 : h 240 = e6') (hold : ∀ q, q < n → q ≠ 4 → q ≠ 5 → q ≠ 240 → h q = kp w n e0 e1 f2 f3 e4 e5 e6 q) (hnew : ∀ q, n ≤ q → q < n' → q ≠ 240 → h q = ct w (fun _ => 0) (fun _ => 0) (V0_ q) q) (hout : ∀ q, n' ≤ q → q ≠ 240 → h q = nilE) : h = kp w n' e0 e1 f2 f3 e4' e5' e6' := by
  funext q
  by_cases c4 : q = 4
  · subst c4; rw [h4]; rfl
  · by_cases c5 : q = 5
    · subst c5; rw [h5]; rfl
    · by_cases c6 : q = 240
      · subst c6; rw [h6]; rfl
      · rcases Nat.lt_or_ge q n with z | z
        · rw [hold q z c4 c5 c6]
          unfold kp
          (repeat' split) <;> first | rfl | omega
        · rcases Nat.lt_or_ge q n' with y | y
          · rw [hnew q z y c6, kp_big (by omega) c6 y]
          · rw [hout q y c6, kp_out (by omega) y c6]
set_option maxRecDepth 20000 in
theorem l_X1_init1 {X : Cx} {l0 : Launch} {g : Gw} {Z : State → Prop} {w : Nat} {e0 : va_E} (b : BX X l0 g mX1_init 2 228 6858) : ∀ (n : Nat) (i : Int) (f f1 : Int → Int), i + n = 6 → 0 ≤ i → WW X g mX1_init.2.2.1 Z 4 60 72 [some (.ref 1), some (.int (iI ((w : Int)))), none] [] ((kp w 6 e0 (.inr (1, [.int (iI (w : Int)), .ref 2, .ref 3, .ref 4, .ref 5, .int 0])) (fillA 8 n i f) (fillA 5 n i f1) (parr 5 8 6 3 0) (parr 6 40 30 5 0) nilE), 6) → WW X g mX1_init.2.2.1 Z 4 60 45 [some (.ref 1), some (.int (iI ((w : Int)))), some (.int (iI (i)))] [] ((kp w 6 e0 (.inr (1, [.int (iI (w : Int)), .ref 2, .ref 3, .ref 4, .ref 5, .int 0])) f f1 (parr 5 8 6 3 0) (parr 6 40 30 5 0) nilE), 6) := by
  intro n
  induction n with
  | zero =>
    intro i f f1 h1 h2 kk
    refine w_iload_n b dX1_init_45 rfl ?_
    refine z_bipush b dX1_init_46 (by decide) ?_
    refine z_icmp_ge (tgt := 72) b dX1_init_48 (by decide) (by omega) (fun c48 => ?_) (fun c48 => ?_)
    · refine ww_forget 2 ?_
      exact kk
    · exfalso; omega
  | succ n ih =>
    intro i f f1 h1 h2 kk
    refine w_iload_n b dX1_init_45 rfl ?_
    refine z_bipush b dX1_init_46 (by decide) ?_
    refine z_icmp_ge (tgt := 72) b dX1_init_48 (by decide) (by omega) (fun c48 => ?_) (fun c48 => ?_)
    · exfalso; omega
    · refine w_aload_n b dX1_init_51 rfl rfl ?_
      refine w_getf b dX1_init_52 lfX1_9 rfl rfl ?_
      refine w_iload_n b dX1_init_55 rfl ?_
      refine z_bipush b dX1_init_56 (by decide) ?_
      refine z_iast b dX1_init_58 (n := 6) (f := f) rfl (by omega) ?_
      refine ww_cast (σ' := ((kp w 6 e0 (.inr (1, [.int (iI (w : Int)), .ref 2, .ref 3, .ref 4, .ref 5, .int 0])) (fu f i 8) f1 (parr 5 8 6 3 0) (parr 6 40 30 5 0) nilE), 6)) rfl rfl (Prod.ext (kp_2 _) rfl) ?_
      refine w_aload_n b dX1_init_59 rfl rfl ?_
      refine w_getf b dX1_init_60 lfX1_15 rfl rfl ?_
      refine w_iload_n b dX1_init_63 rfl ?_
      refine z_iconst b dX1_init_64 ?_
      refine z_iast b dX1_init_65 (n := 6) (f := f1) rfl (by omega) ?_
      refine ww_cast (σ' := ((kp w 6 e0 (.inr (1, [.int (iI (w : Int)), .ref 2, .ref 3, .ref 4, .ref 5, .int 0])) (fu f i 8) (fu f1 i 5) (parr 5 8 6 3 0) (parr 6 40 30 5 0) nilE), 6)) rfl rfl (Prod.ext (kp_3 _) rfl) ?_
      refine z_iinc b dX1_init_66 rfl rfl rfl ?_
      refine w_goto (tgt := 45) b dX1_init_69 (by decide) ?_
      exact ih (i + 1) (fu f i 8) (fu f1 i 5) (by omega) (by omega) kk
set_option maxRecDepth 20000 in
theorem l_X1_init2 {X : Cx} {l0 : Launch} {g : Gw} {Z : State → Prop} {w : Nat} {e0 : va_E} (b : BX X l0 g mX1_init 2 228 6858) (hw : 4 ≤ w ∧ w ≤ 40) : ∀ (n c kc ks : Nat), c + n = 8 → kc = 4 + 3 * c → ks = 60 + 23 * c → WW X g mX1_init.2.2.1 Z 28 244 99 [some (.ref 1), some (.int (iI ((w : Int)))), none] [] ((kp w (6 + 3 * 8) e0 (.inr (1, [.int (iI (w : Int)), .ref 2, .ref 3, .ref 4, .ref 5, .int 0])) (F0_ 16) (F0_ 17) (parr 5 8 6 3 8) (parr 6 40 30 5 0) nilE), 6 + 3 * 8) → WW X g mX1_init.2.2.1 Z kc ks 74 [some (.ref 1), some (.int (iI ((w : Int)))), some (.int (iI ((c : Int))))] [] ((kp w (6 + 3 * c) e0 (.inr (1, [.int (iI (w : Int)), .ref 2, .ref 3, .ref 4, .ref 5, .int 0])) (F0_ 16) (F0_ 17) (parr 5 8 6 3 c) (parr 6 40 30 5 0) nilE), 6 + 3 * c) := by
  intro n
  induction n with
  | zero =>
    intro c kc ks h1 h2 h3 kk
    have e8 : c = 8 := by omega
    subst e8; subst h2; subst h3
    refine w_iload_n b dX1_init_74 rfl ?_
    refine z_bipush b dX1_init_75 (by decide) ?_
    refine z_icmp_ge (tgt := 99) b dX1_init_77 (by decide) (by omega) (fun c77 => ?_) (fun c77 => ?_)
    · refine ww_forget 2 ?_
      exact kk
    · exfalso; omega
  | succ n ih =>
    intro c kc ks h1 h2 h3 kk
    refine w_iload_n b dX1_init_74 rfl ?_
    refine z_bipush b dX1_init_75 (by decide) ?_
    refine z_icmp_ge (tgt := 99) b dX1_init_77 (by decide) (by omega) (fun c77 => ?_) (fun c77 => ?_)
    · exfalso; omega
    · refine w_aload_n b dX1_init_80 rfl rfl ?_
      refine w_getf b dX1_init_81 lfX1_20 rfl rfl ?_
      refine w_iload_n b dX1_init_84 rfl ?_
      refine w_new b dX1_init_85 lnX1_18 (by omega) (by simp <;> omega) ?_
      change WW X g _ _ (kc + 1) (ks + 3) _ _ _ _
      refine w_dup b dX1_init_88 rfl ?_
      refine c_IN0 b dX1_init_89 lmX1_34 (gw_at (i := 108) (by decide +kernel) rfl) rfl rfl (k_X7_init (va_up_self _ _ _) (by show 6 + 3 * c < 6 + 3 * c + 1; omega)) (tle rfl) (by omega) (by omega) (by omega) ?_
      refine w_aast b dX1_init_92 (show (va_up (va_up (va_up (va_up (kp w (6 + 3 * c) e0 (.inr (1, [.int (iI (w : Int)), .ref 2, .ref 3, .ref 4, .ref 5, .int 0])) (F0_ 16) (F0_ 17) (parr 5 8 6 3 c) (parr 6 40 30 5 0) nilE) (6 + 3 * c) (.inr (7, [.null, .null, .int 0]))) (6 + 3 * c + 1) (iarr 0 10 (fun _ => 0))) (6 + 3 * c + 1 + 1) (iarr 0 10 (fun _ => 0))) (6 + 3 * c) (.inr (7, [.ref (6 + 3 * c + 1), .ref (6 + 3 * c + 1 + 1), .int 0]))) 4 = parr 5 8 6 3 c by rw [va_up_ne _ _ (by omega), va_up_ne _ _ (by omega), va_up_ne _ _ (by omega), va_up_ne _ _ (by omega)]; rfl) (by omega) (va_up_self _ _ _) rfl (Or.inl rfl) (iI_in (by omega) (by omega) (by omega)) ?_
      refine ww_cast (σ' := ((kp w (6 + 3 * (c + 1)) e0 (.inr (1, [.int (iI (w : Int)), .ref 2, .ref 3, .ref 4, .ref 5, .int 0])) (F0_ 16) (F0_ 17) (parr 5 8 6 3 (c + 1)) (parr 6 40 30 5 0) nilE), 6 + 3 * (c + 1))) rfl rfl ?_ ?_
      · refine Prod.ext ?_ (by show 6 + 3 * c + 1 + 2 = 6 + 3 * (c + 1); omega)
        show va_up (va_up (va_up (va_up (va_up (kp w (6 + 3 * c) e0 (.inr (1, [.int (iI (w : Int)), .ref 2, .ref 3, .ref 4, .ref 5, .int 0])) (F0_ 16) (F0_ 17) (parr 5 8 6 3 c) (parr 6 40 30 5 0) nilE) (6 + 3 * c) (.inr (7, [.null, .null, .int 0]))) (6 + 3 * c + 1) (iarr 0 10 (fun _ => 0))) (6 + 3 * c + 1 + 1) (iarr 0 10 (fun _ => 0))) (6 + 3 * c) (.inr (7, [.ref (6 + 3 * c + 1), .ref (6 + 3 * c + 1 + 1), .int 0]))) 4 _ = _
        refine kp_more (n := 6 + 3 * c) (e0 := e0) (e4 := parr 5 8 6 3 c) (e5 := parr 6 40 30 5 0) (e6 := nilE) (by omega) ?_ ?_ ?_ (fun q q1 q2 q3 q4 => ?_) (fun q q1 q2 q3 => ?_) (fun q q1 q2 => ?_)
        · rw [va_up_self, iI_clamp (by omega) (by omega), Int.toNat_natCast]; exact parr_s 5 8 6 3 c
        · rw [va_up_ne _ _ (by omega), va_up_ne _ _ (by omega), va_up_ne _ _ (by omega), va_up_ne _ _ (by omega), va_up_ne _ _ (by omega)]; rfl
        · rw [va_up_ne _ _ (by omega), va_up_ne _ _ (by omega), va_up_ne _ _ (by omega), va_up_ne _ _ (by omega), va_up_ne _ _ (by omega)]; rfl
        · rw [va_up_ne _ _ q2, va_up_ne _ _ (by omega), va_up_ne _ _ (by omega), va_up_ne _ _ (by omega), va_up_ne _ _ (by omega)]
        · rw [va_up_ne _ _ (by omega)]
          rcases (show q = 6 + 3 * c ∨ q = 6 + 3 * c + 1 ∨ q = 6 + 3 * c + 2 by omega) with z | z | z
          · rw [z, va_up_self, ct_wool (by omega)]; rfl
          · rw [z, va_up_ne _ _ (by omega), va_up_ne _ _ (by omega), va_up_self, ct_wool1 (by omega)]
          · rw [z, va_up_ne _ _ (by omega), va_up_self, ct_wool2 (by omega)]
        · rw [va_up_ne _ _ (by omega), va_up_ne _ _ (by omega), va_up_ne _ _ (by omega), va_up_ne _ _ (by omega), va_up_ne _ _ (by omega), kp_out (by omega) (by omega) q2]
      refine z_iinc b dX1_init_93 rfl rfl rfl ?_
      refine w_goto (tgt := 74) b dX1_init_96 (by decide) ?_
      refine ww_cast (L' := [some (.ref 1), some (.int (iI ((w : Int)))), some (.int (iI (((c + 1 : Nat) : Int))))]) (by rw [show ((c : Int) + 1) = ((c + 1 : Nat) : Int) by omega]; rfl) rfl rfl ?_
      exact ih (c + 1) _ _ (by omega) (by omega) (by omega) kk
set_option maxRecDepth 20000 in
theorem l_X1_init3 {X : Cx} {l0 : Launch} {g : Gw} {Z : State → Prop} {w : Nat} {e0 : va_E} (b : BX X l0 g mX1_init 2 228 6858) (hw : 4 ≤ w ∧ w ≤ 40) : ∀ (n r kc ks : Nat), r + n = 40 → kc = 28 + 5 * r → ks = 244 + 165 * r → WW X g mX1_init.2.2.1 Z 228 6844 127 [some (.ref 1), some (.int (iI ((w : Int)))), none] [] ((kp w (30 + 5 * 40) e0 (.inr (1, [.int (iI (w : Int)), .ref 2, .ref 3, .ref 4, .ref 5, .int 0])) (F0_ 16) (F0_ 17) (parr 5 8 6 3 8) (parr 6 40 30 5 40) nilE), 30 + 5 * 40) → WW X g mX1_init.2.2.1 Z kc ks 101 [some (.ref 1), some (.int (iI ((w : Int)))), some (.int (iI ((r : Int))))] [] ((kp w (30 + 5 * r) e0 (.inr (1, [.int (iI (w : Int)), .ref 2, .ref 3, .ref 4, .ref 5, .int 0])) (F0_ 16) (F0_ 17) (parr 5 8 6 3 8) (parr 6 40 30 5 r) nilE), 30 + 5 * r) := by
  intro n
  induction n with
  | zero =>
    intro r kc ks h1 h2 h3 kk
    have e8 : r = 40 := by omega
    subst e8; subst h2; subst h3
    refine w_iload_n b dX1_init_101 rfl ?_
    refine z_bipush b dX1_init_102 (by decide) ?_
    refine z_icmp_ge (tgt := 127) b dX1_init_104 (by decide) (by omega) (fun c104 => ?_) (fun c104 => ?_)
    · refine ww_forget 2 ?_
      exact kk
    · exfalso; omega
  | succ n ih =>
    intro r kc ks h1 h2 h3 kk
    refine w_iload_n b dX1_init_101 rfl ?_
    refine z_bipush b dX1_init_102 (by decide) ?_
    refine z_icmp_ge (tgt := 127) b dX1_init_104 (by decide) (by omega) (fun c104 => ?_) (fun c104 => ?_)
    · exfalso; omega
    · refine w_aload_n b dX1_init_107 rfl rfl ?_
      refine w_getf b dX1_init_108 lfX1_26 rfl rfl ?_
      refine w_iload_n b dX1_init_111 rfl ?_
      refine w_new b dX1_init_112 lnX1_24 (by omega) (by simp <;> omega) ?_
      change WW X g _ _ (kc + 1) (ks + 5) _ _ _ _
      refine w_dup b dX1_init_115 rfl ?_
      refine w_iload_n b dX1_init_116 rfl ?_
      refine c_I1 b dX1_init_117 lmX1_35 (k_X3_init (va_up_self _ _ _) (by show 30 + 5 * r < 30 + 5 * r + 1; omega) (by omega)) (tle rfl) (by omega) (by omega) (by omega) ?_
      refine w_aast b dX1_init_120 (show (va_up (va_up (va_up (va_up (va_up (va_up (kp w (30 + 5 * r) e0 (.inr (1, [.int (iI (w : Int)), .ref 2, .ref 3, .ref 4, .ref 5, .int 0])) (F0_ 16) (F0_ 17) (parr 5 8 6 3 8) (parr 6 40 30 5 r) nilE) (30 + 5 * r) (.inr (3, [.null, .null, .null, .null, .int 0]))) (30 + 5 * r + 1) (iarr 1 w (fun _ => 0))) (30 + 5 * r + 1 + 1) (iarr 1 w (fun _ => 0))) (30 + 5 * r + 1 + 2) (iarr 1 w (fun _ => 0))) (30 + 5 * r + 1 + 3) (iarr 1 w (fun _ => 0))) (30 + 5 * r) (.inr (3, [.ref (30 + 5 * r + 1), .ref (30 + 5 * r + 1 + 1), .ref (30 + 5 * r + 1 + 2), .ref (30 + 5 * r + 1 + 3), .int 0]))) 5 = parr 6 40 30 5 r by rw [va_up_ne _ _ (by omega), va_up_ne _ _ (by omega), va_up_ne _ _ (by omega), va_up_ne _ _ (by omega), va_up_ne _ _ (by omega), va_up_ne _ _ (by omega)]; rfl) (by omega) (va_up_self _ _ _) rfl (Or.inl rfl) (iI_in (by omega) (by omega) (by omega)) ?_
      refine ww_cast (σ' := ((kp w (30 + 5 * (r + 1)) e0 (.inr (1, [.int (iI (w : Int)), .ref 2, .ref 3, .ref 4, .ref 5, .int 0])) (F0_ 16) (F0_ 17) (parr 5 8 6 3 8) (parr 6 40 30 5 (r + 1)) nilE), 30 + 5 * (r + 1))) rfl rfl ?_ ?_
      · refine Prod.ext ?_ (by show 30 + 5 * r + 1 + 4 = 30 + 5 * (r + 1); omega)
        show va_up (va_up (va_up (va_up (va_up (va_up (va_up (kp w (30 + 5 * r) e0 (.inr (1, [.int (iI (w : Int)), .ref 2, .ref 3, .ref 4, .ref 5, .int 0])) (F0_ 16) (F0_ 17) (parr 5 8 6 3 8) (parr 6 40 30 5 r) nilE) (30 + 5 * r) (.inr (3, [.null, .null, .null, .null, .int 0]))) (30 + 5 * r + 1) (iarr 1 w (fun _ => 0))) (30 + 5 * r + 1 + 1) (iarr 1 w (fun _ => 0))) (30 + 5 * r + 1 + 2) (iarr 1 w (fun _ => 0))) (30 + 5 * r + 1 + 3) (iarr 1 w (fun _ => 0))) (30 + 5 * r) (.inr (3, [.ref (30 + 5 * r + 1), .ref (30 + 5 * r + 1 + 1), .ref (30 + 5 * r + 1 + 2), .ref (30 + 5 * r + 1 + 3), .int 0]))) 5 _ = _
        refine kp_more (n := 30 + 5 * r) (e0 := e0) (e4 := parr 5 8 6 3 8) (e5 := parr 6 40 30 5 r) (e6 := nilE) (by omega) ?_ ?_ ?_ (fun q q1 q2 q3 q4 => ?_) (fun q q1 q2 q3 => ?_) (fun q q1 q2 => ?_)
        · rw [va_up_ne _ _ (by omega), va_up_ne _ _ (by omega), va_up_ne _ _ (by omega), va_up_ne _ _ (by omega), va_up_ne _ _ (by omega), va_up_ne _ _ (by omega), va_up_ne _ _ (by omega)]; rfl
        · rw [va_up_self, iI_clamp (by omega) (by omega), Int.toNat_natCast]; exact parr_s 6 40 30 5 r
        · rw [va_up_ne _ _ (by omega), va_up_ne _ _ (by omega), va_up_ne _ _ (by omega), va_up_ne _ _ (by omega), va_up_ne _ _ (by omega), va_up_ne _ _ (by omega), va_up_ne _ _ (by omega)]; rfl
        · rw [va_up_ne _ _ q3, va_up_ne _ _ (by omega), va_up_ne _ _ (by omega), va_up_ne _ _ (by omega), va_up_ne _ _ (by omega), va_up_ne _ _ (by omega), va_up_ne _ _ (by omega)]
        · rw [va_up_ne _ _ (by omega)]
          rcases (show q = 30 + 5 * r ∨ q = 30 + 5 * r + 1 ∨ q = 30 + 5 * r + 2 ∨ q = 30 + 5 * r + 3 ∨ q = 30 + 5 * r + 4 by omega) with z | z | z | z | z
          · rw [z, va_up_self, ct_row (by omega)]; rfl
          · rw [z, va_up_ne _ _ (by omega), va_up_ne _ _ (by omega), va_up_ne _ _ (by omega), va_up_ne _ _ (by omega), va_up_self, ct_row1 (by omega)]
          · rw [z, va_up_ne _ _ (by omega), va_up_ne _ _ (by omega), va_up_ne _ _ (by omega), va_up_self, ct_row2 (by omega)]
          · rw [z, va_up_ne _ _ (by omega), va_up_ne _ _ (by omega), va_up_self, ct_row3 (by omega)]
          · rw [z, va_up_ne _ _ (by omega), va_up_self, ct_row4 (by omega)]
        · rw [va_up_ne _ _ (by omega), va_up_ne _ _ (by omega), va_up_ne _ _ (by omega), va_up_ne _ _ (by omega), va_up_ne _ _ (by omega), va_up_ne _ _ (by omega), va_up_ne _ _ (by omega), kp_out (by omega) (by omega) q2]
      refine z_iinc b dX1_init_121 rfl rfl rfl ?_
      refine w_goto (tgt := 101) b dX1_init_124 (by decide) ?_
      refine ww_cast (L' := [some (.ref 1), some (.int (iI ((w : Int)))), some (.int (iI (((r + 1 : Nat) : Int))))]) (by rw [show ((r : Int) + 1) = ((r + 1 : Nat) : Int) by omega]; rfl) rfl rfl ?_
      exact ih (r + 1) _ _ (by omega) (by omega) (by omega) kk
set_option maxRecDepth 20000 in
theorem k_X1_init {l0 : Launch} {g : Gw} {w : Nat} {e0 : va_E} (hw : 4 ≤ w ∧ w ≤ 40) : MD l0 g 2 mX1_init (in0 e0, 2) [.ref 1, .int (iI ((w : Int)))] 228 6858 (none) ((kp w 230 e0 (.inr (1, [.int (iI (w : Int)), .ref 2, .ref 3, .ref 4, .ref 5, .int 0])) (F0_ 16) (F0_ 17) (rarr 5 8 6 3) (rarr 6 40 30 5) nilE), 230) := by
  refine MD.of (by decide +kernel) (by simp [Value.category]) (tle rfl) (fun X b => ?_)
  change WW X g _ _ 0 0 0 [some (.ref 1), some (.int (iI ((w : Int)))), none] [] _
  refine w_aload_n b dX1_init_0 rfl rfl ?_
  refine w_objInit b dX1_init_1 loX1_3 lo_inst lo_code (tle rfl) (by omega) ?_
  refine w_aload_n b dX1_init_4 rfl rfl ?_
  refine z_bipush b dX1_init_5 (by decide) ?_
  refine z_newa (t := 0) (N := 6) b dX1_init_7 la_int (by omega) rfl (by omega) (by omega) (by omega) ?_
  refine w_putf (fs := [.int 0, .null, .null, .null, .null, .int 0]) b dX1_init_9 lfX1_9 gcX1 gtX1_1 (fun _ => rfl) rfl (tlt rfl) rfl rfl ?_
  refine w_aload_n b dX1_init_12 rfl rfl ?_
  refine z_bipush b dX1_init_13 (by decide) ?_
  refine z_newa (t := 0) (N := 6) b dX1_init_15 la_int (by omega) rfl (by omega) (by omega) (by omega) ?_
  refine w_putf (fs := [.int 0, .ref 2, .null, .null, .null, .int 0]) b dX1_init_17 lfX1_15 gcX1 gtX1_2 (fun _ => rfl) rfl (tlt rfl) rfl rfl ?_
  refine w_aload_n b dX1_init_20 rfl rfl ?_
  refine z_bipush b dX1_init_21 (by decide) ?_
  refine z_anew (t := 5) (N := 8) b dX1_init_23 lcX1_18 (by omega) (by rfl) (by omega) (by omega) (by omega) ?_
  refine w_putf (fs := [.int 0, .ref 2, .ref 3, .null, .null, .int 0]) b dX1_init_26 lfX1_20 gcX1 gtX1_3 (fun _ => rfl) rfl (tlt rfl) rfl rfl ?_
  refine w_aload_n b dX1_init_29 rfl rfl ?_
  refine z_bipush b dX1_init_30 (by decide) ?_
  refine z_anew (t := 6) (N := 40) b dX1_init_32 lcX1_24 (by omega) (by rfl) (by omega) (by omega) (by omega) ?_
  refine w_putf (fs := [.int 0, .ref 2, .ref 3, .ref 4, .null, .int 0]) b dX1_init_35 lfX1_26 gcX1 gtX1_4 (fun _ => rfl) rfl (tlt rfl) rfl rfl ?_
  refine w_aload_n b dX1_init_38 rfl rfl ?_
  refine w_iload_n b dX1_init_39 rfl ?_
  refine w_putf (fs := [.int 0, .ref 2, .ref 3, .ref 4, .ref 5, .int 0]) b dX1_init_40 lfX1_30 gcX1 gtX1_0 (fun _ => rfl) rfl (tlt rfl) rfl rfl ?_
  refine z_iconst b dX1_init_43 ?_
  refine w_istore_n b dX1_init_44 (tlt rfl) rfl ?_
  refine ww_cast (σ' := ((kp w 6 e0 (.inr (1, [.int (iI (w : Int)), .ref 2, .ref 3, .ref 4, .ref 5, .int 0])) (fun _ => 0) (fun _ => 0) (parr 5 8 6 3 0) (parr 6 40 30 5 0) nilE), 6)) rfl rfl (Prod.ext kp_in rfl) ?_
  refine l_X1_init1 b 6 0 _ _ (by omega) (by omega) ?_
  refine z_iconst b dX1_init_72 ?_
  refine w_istore_n b dX1_init_73 (tlt rfl) rfl ?_
  refine l_X1_init2 b hw 8 0 4 60 (by omega) (by omega) (by omega) ?_
  refine z_iconst b dX1_init_99 ?_
  refine w_istore_n b dX1_init_100 (tlt rfl) rfl ?_
  refine l_X1_init3 b hw 40 0 28 244 (by omega) (by omega) (by omega) ?_
  exact w_vret b dX1_init_127 rfl (by omega) (by omega) ⟨rfl, rfl⟩
