/-! LISTS: their constructor, add (by p68.py) -/
theorem lw_dce : Cond.fieldLink RJx4a65c 39 "java/util/ArrayList" "DEFAULTCAPACITY_EMPTY_ELEMENTDATA" "[Ljava/lang/Object;" ∈ gw := gw_at (i := 192) (by decide +kernel) rfl
section FWF
variable {X : Cx} {l0 : Launch} {g : Gw} {μ : Md} {d mc ms : Nat} {Z : State → Prop} {kc ks pc : Nat} {L : List (Option Value)} {st : List Value} {σ : Sg}
theorem z_alenE (b : BX X l0 g μ d mc ms) (hd : decode μ.2.1 pc = .ok (.arraylength, 1)) (kk : WW X g μ.2.2.1 Z kc ks (pc + 1) L (.int (iI 0) :: st) σ) : WW X g μ.2.2.1 Z kc ks pc L (.float 0 :: st) σ := w_alenE b hd kk
theorem z_acmp_eqE {q : UInt32} {off : Int} (b : BX X l0 g μ d mc ms) (hd : decode μ.2.1 pc = .ok (.if_acmp .eq off, 3)) {tgt : Nat} (ht : (pc : Int) + off = (tgt : Int))
    (kk : WW X g μ.2.2.1 Z kc ks tgt L st σ) : WW X g μ.2.2.1 Z kc ks pc L (.float q :: .float q :: st) σ := by
  obtain ⟨p, l, e, R, s, m, args, below, meth, c⟩ := X
  obtain ⟨hl0, hx, hb, hml, hr, hlk, hnm, hown, hts, hK, hSw, hB, hR1, hR2, hR3, hR4⟩ := b
  intro H locs ls hP hS hL
  exact lv_acmp_eq (rx := some _) (ry := some _) hx hb hd ht (fun _ => kk H locs ls hP hS hL) (fun z => absurd rfl z)
theorem z_ldc {idx : Nat} {v : Int32} {z : Int} (b : BX X l0 g μ d mc ms) (hd : decode μ.2.1 pc = .ok (.ldc idx, 2)) (hw : Cond.constant μ.1.cls idx v ∈ gw) (hv : v = iI z) (kk : WW X g μ.2.2.1 Z kc ks (pc + 2) L (.int (iI z) :: st) σ) : WW X g μ.2.2.1 Z kc ks pc L st σ := w_ldc b hd hw (by rw [hv]; exact kk)
theorem z_alenR {q n t : Nat} {y : (Nat → Int32) ⊕ (Nat → Int64) ⊕ (Nat → UInt32) ⊕ (Nat → UInt64) ⊕ (Nat → Option Nat)} (b : BX X l0 g μ d mc ms) (hd : decode μ.2.1 pc = .ok (.arraylength, 1)) (hc : σ.1 q = .inl (t, n, y)) (ht : t < 8) (kk : WW X g μ.2.2.1 Z kc ks (pc + 1) L (.int (iI (n : Int)) :: st) σ) : WW X g μ.2.2.1 Z kc ks pc L (.ref q :: st) σ := w_alen b hd hc ht (iI_nat n).symm kk
theorem z_anew {idx t N : Nat} {n : Int} (b : BX X l0 g μ d mc ms) (hd : decode μ.2.1 pc = .ok (.anewarray idx, 3)) (hw : Cond.classLink μ.1.cls idx (aoN t) ∈ gw) (ht : 4 ≤ t ∧ t < 8) (hN : n = (N : Int)) (hb8 : N ≤ 67108864) (hkc : kc + 1 ≤ mc) (hks : ks + N ≤ ms)
    (kk : WW X g μ.2.2.1 Z (kc + 1) (ks + N) (pc + 3) L (.ref σ.2 :: st) (va_up σ.1 σ.2 (.inl (t, N, .inr (.inr (.inr (.inr (fun _ => none)))))), σ.2 + 1)) : WW X g μ.2.2.1 Z kc ks pc L (.int (iI n) :: st) σ := by
  subst hN
  exact w_anew b hd hw ht (fun z => by have := (iI_lt (b := 0) (by omega) (by decide)).mp z; omega) (by rw [iI_clamp (by omega) (by omega)]; omega) hb8 hkc hks kk
end FWF
set_option maxRecDepth 20000 in
theorem k_maxS {l0 : Launch} {g : Gw} {σ : Sg} {a e : Int} (ha : inR a) (he : inR e) : MD l0 g 0 mJ9_max_7cf53 σ [.int (iI (a)), .int (iI (e))] 0 0 (some (.int (iI (if e ≤ a then a else e)))) σ := by
  refine MD.ofF (by decide +kernel) (by simp [Value.category]) (tle rfl) (fun X b => ?_)
  change WW X g _ _ 0 0 0 [some (.int (iI (a))), some (.int (iI (e)))] [] _
  refine w_iload_n b dJ9_max_7cf53_0 rfl ?_
  refine w_iload_n b dJ9_max_7cf53_1 rfl ?_
  refine z_icmp_lt (tgt := 9) b dJ9_max_7cf53_2 (by decide) (by omega) (fun c2 => ?_) (fun c2 => ?_)
  · refine w_iload_n b dJ9_max_7cf53_9 rfl ?_
    exact w_iret b dJ9_max_7cf53_10 rfl (by omega) (by omega) ⟨iv_eq (by first | rfl | omega | ((try simp only [b2]); ((repeat' split) <;> (first | rfl | omega)))), rfl⟩
  · refine w_iload_n b dJ9_max_7cf53_5 rfl ?_
    refine w_goto (tgt := 10) b dJ9_max_7cf53_6 (by decide) ?_
    exact w_iret b dJ9_max_7cf53_10 rfl (by omega) (by omega) ⟨iv_eq (by first | rfl | omega | ((try simp only [b2]); ((repeat' split) <;> (first | rfl | omega)))), rfl⟩
set_option maxRecDepth 20000 in
theorem k_minS {l0 : Launch} {g : Gw} {σ : Sg} {a e : Int} (ha : inR a) (he : inR e) : MD l0 g 0 mJ9_min_7cf53 σ [.int (iI (a)), .int (iI (e))] 0 0 (some (.int (iI (if a ≤ e then a else e)))) σ := by
  refine MD.ofF (by decide +kernel) (by simp [Value.category]) (tle rfl) (fun X b => ?_)
  change WW X g _ _ 0 0 0 [some (.int (iI (a))), some (.int (iI (e)))] [] _
  refine w_iload_n b dJ9_min_7cf53_0 rfl ?_
  refine w_iload_n b dJ9_min_7cf53_1 rfl ?_
  refine z_icmp_gt (tgt := 9) b dJ9_min_7cf53_2 (by decide) (by omega) (fun c2 => ?_) (fun c2 => ?_)
  · refine w_iload_n b dJ9_min_7cf53_9 rfl ?_
    exact w_iret b dJ9_min_7cf53_10 rfl (by omega) (by omega) ⟨iv_eq (by first | rfl | omega | ((try simp only [b2]); ((repeat' split) <;> (first | rfl | omega)))), rfl⟩
  · refine w_iload_n b dJ9_min_7cf53_5 rfl ?_
    refine w_goto (tgt := 10) b dJ9_min_7cf53_6 (by decide) ?_
    exact w_iret b dJ9_min_7cf53_10 rfl (by omega) (by omega) ⟨iv_eq (by first | rfl | omega | ((try simp only [b2]); ((repeat' split) <;> (first | rfl | omega)))), rfl⟩
set_option maxRecDepth 20000 in
theorem k_Jxa1e45_init {l0 : Launch} {g : Gw} {σ : Sg} {q : Nat}  : MD l0 g 1 mJxa1e45_init_da8c8 σ [.ref q] 0 0 (none) σ := by
  refine MD.of (by decide +kernel) (by simp [Value.category]) (tle rfl) (fun X b => ?_)
  change WW X g _ _ 0 0 0 [some (.ref q)] [] _
  refine w_aload_n b dJxa1e45_init_da8c8_0 rfl rfl ?_
  refine w_objInit b dJxa1e45_init_da8c8_1 loJxa1e45_1 lo_inst lo_code (tle rfl) (by omega) ?_
  exact w_vret b dJxa1e45_init_da8c8_4 rfl (by omega) (by omega) ⟨rfl, rfl⟩
set_option maxRecDepth 20000 in
theorem k_Jxc12de_init {l0 : Launch} {g : Gw} {σ : Sg} {q : Nat} (hq : σ.1 q = .inr (10, [.int 0, .null, .int 0])) : MD l0 g 2 mJxc12de_init_da8c8 σ [.ref q] 0 0 (none) (va_up σ.1 q (.inr (10, [.int (iI 0), .null, .int 0])), σ.2) := by
  refine MD.of (by decide +kernel) (by simp [Value.category]) (tle rfl) (fun X b => ?_)
  change WW X g _ _ 0 0 0 [some (.ref q)] [] _
  refine w_aload_n b dJxc12de_init_da8c8_0 rfl rfl ?_
  refine c_I0 b dJxc12de_init_da8c8_1 lmJxc12de_1 (k_Jxa1e45_init) (tle rfl) (by omega) (by omega) (by omega) ?_
  refine w_aload_n b dJxc12de_init_da8c8_4 rfl rfl ?_
  refine z_iconst b dJxc12de_init_da8c8_5 ?_
  refine w_putf b dJxc12de_init_da8c8_6 lfJxc12de_7 gcJx4a65c gtJx4a65c_0 (fun z => by cases z) hq (tlt rfl) rfl rfl ?_
  exact w_vret b dJxc12de_init_da8c8_9 rfl (by omega) (by omega) ⟨rfl, rfl⟩
set_option maxRecDepth 20000 in
theorem k_listInit {l0 : Launch} {g : Gw} {σ : Sg} {q : Nat} (hq : σ.1 q = .inr (10, [.int 0, .null, .int 0])) : MD l0 g 3 mJx4a65c_init_da8c8 σ [.ref q] 0 0 (none) (va_up σ.1 q (.inr (10, [.int (iI 0), .float 0, .int (iI 0)])), σ.2) := by
  refine MD.of (by decide +kernel) (by simp [Value.category]) (tle rfl) (fun X b => ?_)
  change WW X g _ _ 0 0 0 [some (.ref q)] [] _
  refine w_aload_n b dJx4a65c_init_da8c8_0 rfl rfl ?_
  refine c_I0 b dJx4a65c_init_da8c8_1 lmJx4a65c_1 (k_Jxc12de_init hq) (tle rfl) (by omega) (by omega) (by omega) ?_
  refine w_aload_n b dJx4a65c_init_da8c8_4 rfl rfl ?_
  refine w_getsE b dJx4a65c_init_da8c8_5 lw_dce ?_
  refine w_putf b dJx4a65c_init_da8c8_8 lfJx4a65c_9 gcJx4a65c gtJx4a65c_1 (fun z => by cases z) (va_up_self _ _ _) (tlt rfl) rfl rfl ?_
  exact w_vret b dJx4a65c_init_da8c8_11 rfl (by omega) (by omega) ⟨rfl, by rw [va_up_twice]; rfl⟩
set_option maxRecDepth 20000 in
theorem k_newLength {l0 : Launch} {g : Gw} {σ : Sg} {a c e : Int} (ha : 1 ≤ a ∧ a ≤ 1000) (hc : 0 ≤ c ∧ c ≤ 1000) (he : 0 ≤ e ∧ e ≤ 1000) : MD l0 g 1 mJ8_newLength_cabcc σ [.int (iI (a)), .int (iI (c)), .int (iI (e))] 0 0 (some (.int (iI (a + (if e ≤ c then c else e))))) σ := by
  refine MD.of (by decide +kernel) (by simp [Value.category]) (tle rfl) (fun X b => ?_)
  change WW X g _ _ 0 0 0 [some (.int (iI (a))), some (.int (iI (c))), some (.int (iI (e))), none] [] _
  refine w_iload_n b dJ8_newLength_cabcc_0 rfl ?_
  refine w_iload_n b dJ8_newLength_cabcc_1 rfl ?_
  refine w_iload_n b dJ8_newLength_cabcc_2 rfl ?_
  refine c_S2 b dJ8_newLength_cabcc_3 lmJ8_194 (k_maxS (by omega) (by omega)) (tle rfl) (by omega) (by omega) (by omega) ?_
  refine z_iadd b dJ8_newLength_cabcc_6 ?_
  refine w_istore_n b dJ8_newLength_cabcc_7 (tlt rfl) rfl ?_
  have hm : 0 ≤ (if e ≤ c then c else e) ∧ (if e ≤ c then c else e) ≤ 1000 := by split <;> omega
  refine z_iconst b dJ8_newLength_cabcc_8 ?_
  refine w_iload_n b dJ8_newLength_cabcc_9 rfl ?_
  refine z_icmp_ge (tgt := 21) b dJ8_newLength_cabcc_10 (by decide) (by omega) (fun c10 => ?_) (fun c10 => ?_)
  · exfalso; omega
  · refine w_iload_n b dJ8_newLength_cabcc_13 rfl ?_
    refine z_ldc (z := 2147483639) b dJ8_newLength_cabcc_14 lkJ8_200 (by decide) ?_
    refine z_icmp_gt (tgt := 21) b dJ8_newLength_cabcc_16 (by decide) (by omega) (fun c16 => ?_) (fun c16 => ?_)
    · exfalso; omega
    · refine w_iload_n b dJ8_newLength_cabcc_19 rfl ?_
      exact w_iret b dJ8_newLength_cabcc_20 rfl (by omega) (by omega) ⟨iv_eq (by first | rfl | omega | ((try simp only [b2]); ((repeat' split) <;> (first | rfl | omega)))), rfl⟩
set_option maxRecDepth 20000 in
theorem k_growA {l0 : Launch} {g : Gw} {σ : Sg} {l : Nat} {m n : Value} (hl : σ.1 l = .inr (10, [m, .float 0, n])) (hln : l ≠ σ.2) : MD l0 g 1 mJx4a65c_grow_92f84 σ [.ref l, .int (iI (1))] 1 10 (some (.ref σ.2)) (va_up (va_up σ.1 σ.2 (.inl (4, 10, .inr (.inr (.inr (.inr (fun _ => none))))))) l (.inr (10, [m, .ref σ.2, n])), σ.2 + 1) := by
  refine MD.of (by decide +kernel) (by simp [Value.category]) (tle rfl) (fun X b => ?_)
  change WW X g _ _ 0 0 0 [some (.ref l), some (.int (iI (1))), none, none] [] _
  refine w_aload_n b dJx4a65c_grow_92f84_0 rfl rfl ?_
  refine w_getf b dJx4a65c_grow_92f84_1 lfJx4a65c_9 hl rfl ?_
  refine z_alenE b dJx4a65c_grow_92f84_4 ?_
  refine w_istore_n b dJx4a65c_grow_92f84_5 (tlt rfl) rfl ?_
  refine w_iload_n b dJx4a65c_grow_92f84_6 rfl ?_
  refine z_if_gt (tgt := 20) b dJx4a65c_grow_92f84_7 (by decide) (by omega) (fun c7 => ?_) (fun c7 => ?_)
  · exfalso; omega
  · refine w_aload_n b dJx4a65c_grow_92f84_10 rfl rfl ?_
    refine w_getf b dJx4a65c_grow_92f84_11 lfJx4a65c_9 hl rfl ?_
    refine w_getsE b dJx4a65c_grow_92f84_14 lw_dce ?_
    refine z_acmp_eqE (tgt := 45) b dJx4a65c_grow_92f84_17 (by decide) ?_
    refine w_aload_n b dJx4a65c_grow_92f84_45 rfl rfl ?_
    refine z_bipush b dJx4a65c_grow_92f84_46 (by decide) ?_
    refine w_iload_n b dJx4a65c_grow_92f84_48 rfl ?_
    refine c_S2 b dJx4a65c_grow_92f84_49 lmJx4a65c_79 (k_maxS (by omega) (by omega)) (tle rfl) (by omega) (by omega) (by omega) ?_
    refine y_top (y := 10) (by rfl) ?_
    refine z_anew (t := 4) (N := 10) b dJx4a65c_grow_92f84_52 lcJx4a65c_7 (by omega) (by rfl) (by omega) (by omega) (by omega) ?_
    refine w_dup_x1 b dJx4a65c_grow_92f84_55 rfl rfl ?_
    refine w_putf b dJx4a65c_grow_92f84_56 lfJx4a65c_9 gcJx4a65c gtJx4a65c_1 (fun z => by cases z) ((va_up_ne _ _ hln).trans hl) (tlt rfl) rfl rfl ?_
    exact w_aret b dJx4a65c_grow_92f84_59 rfl (Or.inr ⟨_, rfl⟩) rfl (by omega) (by omega) ⟨rfl, rfl⟩
set_option maxRecDepth 20000 in
theorem k_copyOf3 {l0 : Launch} {g : Gw} {σ : Sg} {a : Nat} {ci : Nat} {CN : String} {T0 : u_T} {N0 : Nat} {f : Nat → Option Nat} (hC : kcls[ci]? = some (CN, T0, N0)) (hE : CN ∈ caC) (ha : σ.1 a = (.inl (4, 10, .inr (.inr (.inr (.inr (f))))))) (han : a ≠ σ.2) (hel : ∀ i, i < 10 → ∀ y, f i = some y → ∃ fs, σ.1 y = .inr (ci, fs) ∧ y ≠ σ.2) : MD l0 g 1 mJ7_copyOf_6403c σ [.ref a, .int (iI (15)), .float 2] 1 15 (some (.ref σ.2)) (va_up σ.1 σ.2 (.inl (4, 15, .inr (.inr (.inr (.inr (va_cpy f (fun _ => none) 0 0 10)))))), σ.2 + 1) := by
  refine MD.of (by decide +kernel) (by simp [Value.category]) (tle rfl) (fun X b => ?_)
  change WW X g _ _ 0 0 0 [some (.ref a), some (.int (iI (15))), some (.float 2), none] [] _
  refine w_aload_n b dJ7_copyOf_6403c_0 rfl rfl ?_
  refine w_ldcM b dJ7_copyOf_6403c_1 lcJ7_110 ?_
  refine w_acmp_neE (tgt := 13) b dJ7_copyOf_6403c_3 (by decide) ?_
  refine w_iload_n b dJ7_copyOf_6403c_6 rfl ?_
  refine z_anew (t := 4) (N := 15) b dJ7_copyOf_6403c_7 lcJ7_2 (by omega) (by rfl) (by omega) (by omega) (by omega) ?_
  refine w_goto (tgt := 24) b dJ7_copyOf_6403c_10 (by decide) ?_
  refine w_astore_n b dJ7_copyOf_6403c_24 (tlt rfl) rfl rfl ?_
  refine w_aload_n b dJ7_copyOf_6403c_25 rfl rfl ?_
  refine z_iconst b dJ7_copyOf_6403c_26 ?_
  refine w_aload_n b dJ7_copyOf_6403c_27 rfl rfl ?_
  refine z_iconst b dJ7_copyOf_6403c_28 ?_
  refine w_aload_n b dJ7_copyOf_6403c_29 rfl rfl ?_
  refine z_alenR b dJ7_copyOf_6403c_30 (show ((va_up σ.1 σ.2 (.inl (4, 15, .inr (.inr (.inr (.inr (fun _ => none)))))), σ.2 + 1) : Sg).1 a = (.inl (4, 10, .inr (.inr (.inr (.inr (f)))))) by show va_up σ.1 σ.2 _ a = _; rw [va_up_ne _ _ han]; exact ha) (tlt rfl) ?_
  refine w_iload_n b dJ7_copyOf_6403c_31 rfl ?_
  refine c_S2 b dJ7_copyOf_6403c_32 lmJ7_304 (k_minS (by omega) (by omega)) (tle rfl) (by omega) (by omega) (by omega) ?_
  refine y_top (y := 10) (by rfl) ?_
  refine w_copyR (n0 := 10) (n1 := 15) (f := f) (f1 := fun _ => none) (ci := ci) b dJ7_copyOf_6403c_35 lw_acJ (by show va_up σ.1 σ.2 _ a = _; rw [va_up_ne _ _ han]; exact ha) (va_up_self _ _ _) (by decide) (by decide) (by decide) (by decide) (by decide) hC hE (fun i hi y hy => ?_) (by omega) (by simp) ?_
  · obtain ⟨fs, q1, q2⟩ := hel i hi y (by rw [show (iI 0).toNatClampNeg = 0 by decide, Nat.zero_add] at hy; exact hy)
    exact ⟨fs, by show va_up σ.1 σ.2 _ y = _; rw [va_up_ne _ _ q2]; exact q1⟩
  refine w_aload_n b dJ7_copyOf_6403c_38 rfl rfl ?_
  exact w_aret b dJ7_copyOf_6403c_39 rfl (Or.inr ⟨_, rfl⟩) rfl (by omega) (by omega) ⟨rfl, by rw [va_up_twice]; rfl⟩
set_option maxRecDepth 20000 in
theorem k_copyOf2 {l0 : Launch} {g : Gw} {σ : Sg} {a : Nat} {ci : Nat} {CN : String} {T0 : u_T} {N0 : Nat} {f : Nat → Option Nat} (hC : kcls[ci]? = some (CN, T0, N0)) (hE : CN ∈ caC) (ha : σ.1 a = (.inl (4, 10, .inr (.inr (.inr (.inr (f))))))) (han : a ≠ σ.2) (hel : ∀ i, i < 10 → ∀ y, f i = some y → ∃ fs, σ.1 y = .inr (ci, fs) ∧ y ≠ σ.2) : MD l0 g 2 mJ7_copyOf_1904c σ [.ref a, .int (iI (15))] 1 15 (some (.ref σ.2)) (va_up σ.1 σ.2 (.inl (4, 15, .inr (.inr (.inr (.inr (va_cpy f (fun _ => none) 0 0 10)))))), σ.2 + 1) := by
  refine MD.of (by decide +kernel) (by simp [Value.category]) (tle rfl) (fun X b => ?_)
  change WW X g _ _ 0 0 0 [some (.ref a), some (.int (iI (15)))] [] _
  refine w_aload_n b dJ7_copyOf_1904c_0 rfl rfl ?_
  refine w_iload_n b dJ7_copyOf_1904c_1 rfl ?_
  refine w_aload_n b dJ7_copyOf_1904c_2 rfl rfl ?_
  refine w_getC b dJ7_copyOf_1904c_3 lw_gcl ha (by omega) (tle rfl) ?_
  refine c_S3 b dJ7_copyOf_1904c_6 lmJ7_300 (k_copyOf3 hC hE ha han hel) (tle rfl) (by omega) (by omega) (by omega) ?_
  exact w_aret b dJ7_copyOf_1904c_9 rfl (Or.inr ⟨_, rfl⟩) rfl (by omega) (by omega) ⟨rfl, rfl⟩
set_option maxRecDepth 20000 in
theorem k_growC {l0 : Launch} {g : Gw} {σ : Sg} {l a : Nat} {m n : Value} {ci : Nat} {CN : String} {T0 : u_T} {N0 : Nat} {f : Nat → Option Nat} (hl : σ.1 l = .inr (10, [m, .ref a, n])) (hln : l ≠ σ.2) (hC : kcls[ci]? = some (CN, T0, N0)) (hE : CN ∈ caC) (ha : σ.1 a = (.inl (4, 10, .inr (.inr (.inr (.inr (f))))))) (han : a ≠ σ.2) (hel : ∀ i, i < 10 → ∀ y, f i = some y → ∃ fs, σ.1 y = .inr (ci, fs) ∧ y ≠ σ.2) : MD l0 g 3 mJx4a65c_grow_92f84 σ [.ref l, .int (iI (11))] 1 15 (some (.ref σ.2)) (va_up (va_up σ.1 σ.2 (.inl (4, 15, .inr (.inr (.inr (.inr (va_cpy f (fun _ => none) 0 0 10))))))) l (.inr (10, [m, .ref σ.2, n])), σ.2 + 1) := by
  refine MD.of (by decide +kernel) (by simp [Value.category]) (tle rfl) (fun X b => ?_)
  change WW X g _ _ 0 0 0 [some (.ref l), some (.int (iI (11))), none, none] [] _
  refine w_aload_n b dJx4a65c_grow_92f84_0 rfl rfl ?_
  refine w_getf b dJx4a65c_grow_92f84_1 lfJx4a65c_9 hl rfl ?_
  refine z_alenR b dJx4a65c_grow_92f84_4 ha (tlt rfl) ?_
  refine w_istore_n b dJx4a65c_grow_92f84_5 (tlt rfl) rfl ?_
  refine w_iload_n b dJx4a65c_grow_92f84_6 rfl ?_
  refine z_if_gt (tgt := 20) b dJx4a65c_grow_92f84_7 (by decide) (by omega) (fun c7 => ?_) (fun c7 => ?_)
  · refine w_iload_n b dJx4a65c_grow_92f84_20 rfl ?_
    refine w_iload_n b dJx4a65c_grow_92f84_21 rfl ?_
    refine w_iload_n b dJx4a65c_grow_92f84_22 rfl ?_
    refine z_isub b dJx4a65c_grow_92f84_23 ?_
    refine w_iload_n b dJx4a65c_grow_92f84_24 rfl ?_
    refine z_iconst b dJx4a65c_grow_92f84_25 ?_
    refine z_ishr b dJx4a65c_grow_92f84_26 (by omega) ?_
    refine c_S3 b dJx4a65c_grow_92f84_27 lmJx4a65c_73 (k_newLength (by omega) (by omega) (by decide)) (tle rfl) (by omega) (by omega) (by omega) ?_
    refine y_top (y := 15) (by decide) ?_
    refine w_istore_n b dJx4a65c_grow_92f84_30 (tlt rfl) rfl ?_
    refine w_aload_n b dJx4a65c_grow_92f84_31 rfl rfl ?_
    refine w_aload_n b dJx4a65c_grow_92f84_32 rfl rfl ?_
    refine w_getf b dJx4a65c_grow_92f84_33 lfJx4a65c_9 hl rfl ?_
    refine w_iload_n b dJx4a65c_grow_92f84_36 rfl ?_
    refine c_S2 b dJx4a65c_grow_92f84_37 lmJx4a65c_66 (k_copyOf2 hC hE ha han hel) (tle rfl) (by omega) (by omega) (by omega) ?_
    refine w_dup_x1 b dJx4a65c_grow_92f84_40 rfl rfl ?_
    refine w_putf b dJx4a65c_grow_92f84_41 lfJx4a65c_9 gcJx4a65c gtJx4a65c_1 (fun z => by cases z) (by show va_up σ.1 σ.2 _ l = _; rw [va_up_ne _ _ hln]; exact hl) (tlt rfl) rfl rfl ?_
    exact w_aret b dJx4a65c_grow_92f84_44 rfl (Or.inr ⟨_, rfl⟩) rfl (by omega) (by omega) ⟨rfl, rfl⟩
  · exfalso; omega
set_option maxRecDepth 20000 in
theorem k_grow1A {l0 : Launch} {g : Gw} {σ : Sg} {l : Nat} {m : Value}  (hl : σ.1 l = .inr (10, [m, .float 0, .int (iI 0)])) (hln : l ≠ σ.2)  : MD l0 g 2 mJx4a65c_grow_d5877 σ [.ref l] 1 10 (some (.ref σ.2)) (va_up (va_up σ.1 σ.2 (.inl (4, 10, .inr (.inr (.inr (.inr (fun _ => none))))))) l (.inr (10, [m, .ref σ.2, .int (iI 0)])), σ.2 + 1) := by
  refine MD.of (by decide +kernel) (by simp [Value.category]) (tle rfl) (fun X b => ?_)
  change WW X g _ _ 0 0 0 [some (.ref l)] [] _
  refine w_aload_n b dJx4a65c_grow_d5877_0 rfl rfl ?_
  refine w_aload_n b dJx4a65c_grow_d5877_1 rfl rfl ?_
  refine w_getf b dJx4a65c_grow_d5877_2 lfJx4a65c_48 hl rfl ?_
  refine z_iconst b dJx4a65c_grow_d5877_5 ?_
  refine z_iadd b dJx4a65c_grow_d5877_6 ?_
  refine c_V1 b dJx4a65c_grow_d5877_7 lmJx4a65c_69 hl (k_growA hl hln) (tle rfl) (by omega) (by omega) (by omega) ?_
  exact w_aret b dJx4a65c_grow_d5877_10 rfl (Or.inr ⟨_, rfl⟩) rfl (by omega) (by omega) ⟨rfl, rfl⟩
set_option maxRecDepth 20000 in
theorem k_grow1C {l0 : Launch} {g : Gw} {σ : Sg} {l : Nat} {m : Value} {a : Nat} {ci : Nat} {CN : String} {T0 : u_T} {N0 : Nat} {f : Nat → Option Nat} (hl : σ.1 l = .inr (10, [m, .ref a, .int (iI 10)])) (hln : l ≠ σ.2) (hC : kcls[ci]? = some (CN, T0, N0)) (hE : CN ∈ caC) (ha : σ.1 a = (.inl (4, 10, .inr (.inr (.inr (.inr (f))))))) (han : a ≠ σ.2) (hel : ∀ i, i < 10 → ∀ y, f i = some y → ∃ fs, σ.1 y = .inr (ci, fs) ∧ y ≠ σ.2) : MD l0 g 4 mJx4a65c_grow_d5877 σ [.ref l] 1 15 (some (.ref σ.2)) (va_up (va_up σ.1 σ.2 (.inl (4, 15, .inr (.inr (.inr (.inr (va_cpy f (fun _ => none) 0 0 10))))))) l (.inr (10, [m, .ref σ.2, .int (iI 10)])), σ.2 + 1) := by
  refine MD.of (by decide +kernel) (by simp [Value.category]) (tle rfl) (fun X b => ?_)
  change WW X g _ _ 0 0 0 [some (.ref l)] [] _
  refine w_aload_n b dJx4a65c_grow_d5877_0 rfl rfl ?_
  refine w_aload_n b dJx4a65c_grow_d5877_1 rfl rfl ?_
  refine w_getf b dJx4a65c_grow_d5877_2 lfJx4a65c_48 hl rfl ?_
  refine z_iconst b dJx4a65c_grow_d5877_5 ?_
  refine z_iadd b dJx4a65c_grow_d5877_6 ?_
  refine c_V1 b dJx4a65c_grow_d5877_7 lmJx4a65c_69 hl (k_growC hl hln hC hE ha han hel) (tle rfl) (by omega) (by omega) (by omega) ?_
  exact w_aret b dJx4a65c_grow_d5877_10 rfl (Or.inr ⟨_, rfl⟩) rfl (by omega) (by omega) ⟨rfl, rfl⟩
set_option maxRecDepth 20000 in
theorem k_add3B {l0 : Launch} {g : Gw} {σ : Sg} {l a len : Nat} {m : Value} {n : Int} {f : Nat → Option Nat} {k ck : Nat} {CK : String} {TK : u_T} {NK : Nat} {kf : List Value} (hl : σ.1 l = .inr (10, [m, .ref a, .int (iI n)])) (hla : l ≠ a) (ha : σ.1 a = (.inl (4, len, .inr (.inr (.inr (.inr (f))))))) (hn : 0 ≤ n ∧ n < (len : Int) ∧ len ≤ 1000) (hk : σ.1 k = .inr (ck, kf)) (hCK : kcls[ck]? = some (CK, TK, NK)) (hEK : CK ∈ caC) : MD l0 g 0 mJx4a65c_add_72be8 σ [.ref l, .ref k, .ref a, .int (iI (n))] 0 0 (none) (va_up (va_up σ.1 a (.inl (4, len, .inr (.inr (.inr (.inr (va_up f n.toNat (some k)))))))) l (.inr (10, [m, .ref a, .int (iI (n + 1))])), σ.2) := by
  refine MD.of (by decide +kernel) (by simp [Value.category]) (tle rfl) (fun X b => ?_)
  change WW X g _ _ 0 0 0 [some (.ref l), some (.ref k), some (.ref a), some (.int (iI (n)))] [] _
  refine w_iload_n b dJx4a65c_add_72be8_0 rfl ?_
  refine w_aload_n b dJx4a65c_add_72be8_1 rfl rfl ?_
  refine z_alenR b dJx4a65c_add_72be8_2 ha (tlt rfl) ?_
  refine z_icmp_ne (tgt := 11) b dJx4a65c_add_72be8_3 (by decide) (by omega) (fun c3 => ?_) (fun c3 => ?_)
  · refine w_aload_n b dJx4a65c_add_72be8_11 rfl rfl ?_
    refine w_iload_n b dJx4a65c_add_72be8_12 rfl ?_
    refine w_aload_n b dJx4a65c_add_72be8_13 rfl rfl ?_
    refine w_aast b dJx4a65c_add_72be8_14 ha (by omega) hk hCK (Or.inr ⟨rfl, hEK⟩) (iI_in hn.1 hn.2.1 (by omega)) ?_
    refine w_aload_n b dJx4a65c_add_72be8_15 rfl rfl ?_
    refine w_iload_n b dJx4a65c_add_72be8_16 rfl ?_
    refine z_iconst b dJx4a65c_add_72be8_17 ?_
    refine z_iadd b dJx4a65c_add_72be8_18 ?_
    refine w_putf b dJx4a65c_add_72be8_19 lfJx4a65c_48 gcJx4a65c gtJx4a65c_2 (fun z => by cases z) (by show va_up σ.1 a _ l = _; rw [va_up_ne _ _ hla]; exact hl) (tlt rfl) rfl rfl ?_
    exact w_vret b dJx4a65c_add_72be8_22 rfl (by omega) (by omega) ⟨rfl, by rw [iI_clamp hn.1 (by omega)]; rfl⟩
  · exfalso; omega
theorem add3_eq {h : Nat → va_E} {l a : Nat} (hla : l ≠ a) (x y u z : va_E) : va_up (va_up (va_up (va_up h a x) l y) a u) l z = va_up (va_up h a u) l z := by
  funext j
  by_cases h1 : j = l
  · subst h1; rw [va_up_self, va_up_self]
  · rw [va_up_ne _ _ h1, va_up_ne _ _ h1]
    by_cases h2 : j = a
    · subst h2; rw [va_up_self, va_up_self]
    · rw [va_up_ne _ _ h2, va_up_ne _ _ h1, va_up_ne _ _ h2, va_up_ne _ _ h2]
theorem add1_eq {h : Nat → va_E} {l a : Nat} (hla : l ≠ a) (x y z : va_E) : va_up (va_up (va_up h l x) a y) l z = va_up (va_up h a y) l z := by
  funext j
  by_cases h1 : j = l
  · subst h1; rw [va_up_self, va_up_self]
  · rw [va_up_ne _ _ h1, va_up_ne _ _ h1]
    by_cases h2 : j = a
    · subst h2; rw [va_up_self, va_up_self]
    · rw [va_up_ne _ _ h2, va_up_ne _ _ h1, va_up_ne _ _ h2]
set_option maxRecDepth 20000 in
theorem k_add3A {l0 : Launch} {g : Gw} {σ : Sg} {l : Nat} {m : Value}  {k ck : Nat} {CK : String} {TK : u_T} {NK : Nat} {kf : List Value} (hl : σ.1 l = .inr (10, [m, .float 0, .int (iI 0)])) (hln : l ≠ σ.2) (hkl : k ≠ l) (hkn : k ≠ σ.2)  (hk : σ.1 k = .inr (ck, kf)) (hCK : kcls[ck]? = some (CK, TK, NK)) (hEK : CK ∈ caC) : MD l0 g 3 mJx4a65c_add_72be8 σ [.ref l, .ref k, .float 0, .int (iI (0))] 1 10 (none) (va_up (va_up σ.1 σ.2 (.inl (4, 10, .inr (.inr (.inr (.inr (va_up (fun _ => none) 0 (some k)))))))) l (.inr (10, [m, .ref σ.2, .int (iI (0 + 1))])), σ.2 + 1) := by
  refine MD.of (by decide +kernel) (by simp [Value.category]) (tle rfl) (fun X b => ?_)
  change WW X g _ _ 0 0 0 [some (.ref l), some (.ref k), some (.float 0), some (.int (iI (0)))] [] _
  refine w_iload_n b dJx4a65c_add_72be8_0 rfl ?_
  refine w_aload_n b dJx4a65c_add_72be8_1 rfl rfl ?_
  refine z_alenE b dJx4a65c_add_72be8_2 ?_
  refine z_icmp_ne (tgt := 11) b dJx4a65c_add_72be8_3 (by decide) (by omega) (fun c3 => ?_) (fun c3 => ?_)
  · exfalso; omega
  · refine w_aload_n b dJx4a65c_add_72be8_6 rfl rfl ?_
    refine c_V0 b dJx4a65c_add_72be8_7 lmJx4a65c_129 hl (k_grow1A hl hln) (tle rfl) (by omega) (by omega) (by omega) ?_
    refine w_astore_n b dJx4a65c_add_72be8_10 (tlt rfl) rfl rfl ?_
    refine w_aload_n b dJx4a65c_add_72be8_11 rfl rfl ?_
    refine w_iload_n b dJx4a65c_add_72be8_12 rfl ?_
    refine w_aload_n b dJx4a65c_add_72be8_13 rfl rfl ?_
    refine w_aast b dJx4a65c_add_72be8_14 (by show va_up (va_up σ.1 σ.2 _) l _ σ.2 = _; rw [va_up_ne _ _ (Ne.symm hln), va_up_self]) (by omega) (by show va_up (va_up σ.1 σ.2 _) l _ k = _; rw [va_up_ne _ _ hkl, va_up_ne _ _ hkn]; exact hk) hCK (Or.inr ⟨rfl, hEK⟩) (iI_in (by omega) (by omega) (by omega)) ?_
    refine w_aload_n b dJx4a65c_add_72be8_15 rfl rfl ?_
    refine w_iload_n b dJx4a65c_add_72be8_16 rfl ?_
    refine z_iconst b dJx4a65c_add_72be8_17 ?_
    refine z_iadd b dJx4a65c_add_72be8_18 ?_
    refine w_putf b dJx4a65c_add_72be8_19 lfJx4a65c_48 gcJx4a65c gtJx4a65c_2 (fun z => by cases z) (by show va_up (va_up (va_up σ.1 σ.2 _) l _) σ.2 _ l = _; rw [va_up_ne _ _ hln, va_up_self]) (tlt rfl) rfl rfl ?_
    exact w_vret b dJx4a65c_add_72be8_22 rfl (by omega) (by omega) ⟨rfl, by rw [iI_clamp (by omega) (by omega)]; exact Prod.ext (add3_eq hln _ _ _ _) rfl⟩
set_option maxRecDepth 20000 in
theorem k_add3C {l0 : Launch} {g : Gw} {σ : Sg} {l : Nat} {m : Value} {a : Nat} {ci : Nat} {CN : String} {T0 : u_T} {N0 : Nat} {f : Nat → Option Nat} {k ck : Nat} {CK : String} {TK : u_T} {NK : Nat} {kf : List Value} (hl : σ.1 l = .inr (10, [m, .ref a, .int (iI 10)])) (hln : l ≠ σ.2) (hkl : k ≠ l) (hkn : k ≠ σ.2) (hC : kcls[ci]? = some (CN, T0, N0)) (hE : CN ∈ caC) (ha : σ.1 a = (.inl (4, 10, .inr (.inr (.inr (.inr (f))))))) (han : a ≠ σ.2) (hel : ∀ i, i < 10 → ∀ y, f i = some y → ∃ fs, σ.1 y = .inr (ci, fs) ∧ y ≠ σ.2) (hk : σ.1 k = .inr (ck, kf)) (hCK : kcls[ck]? = some (CK, TK, NK)) (hEK : CK ∈ caC) : MD l0 g 5 mJx4a65c_add_72be8 σ [.ref l, .ref k, .ref a, .int (iI (10))] 1 15 (none) (va_up (va_up σ.1 σ.2 (.inl (4, 15, .inr (.inr (.inr (.inr (va_up (va_cpy f (fun _ => none) 0 0 10) 10 (some k)))))))) l (.inr (10, [m, .ref σ.2, .int (iI (10 + 1))])), σ.2 + 1) := by
  refine MD.of (by decide +kernel) (by simp [Value.category]) (tle rfl) (fun X b => ?_)
  change WW X g _ _ 0 0 0 [some (.ref l), some (.ref k), some (.ref a), some (.int (iI (10)))] [] _
  refine w_iload_n b dJx4a65c_add_72be8_0 rfl ?_
  refine w_aload_n b dJx4a65c_add_72be8_1 rfl rfl ?_
  refine z_alenR b dJx4a65c_add_72be8_2 ha (tlt rfl) ?_
  refine z_icmp_ne (tgt := 11) b dJx4a65c_add_72be8_3 (by decide) (by omega) (fun c3 => ?_) (fun c3 => ?_)
  · exfalso; omega
  · refine w_aload_n b dJx4a65c_add_72be8_6 rfl rfl ?_
    refine c_V0 b dJx4a65c_add_72be8_7 lmJx4a65c_129 hl (k_grow1C hl hln hC hE ha han hel) (tle rfl) (by omega) (by omega) (by omega) ?_
    refine w_astore_n b dJx4a65c_add_72be8_10 (tlt rfl) rfl rfl ?_
    refine w_aload_n b dJx4a65c_add_72be8_11 rfl rfl ?_
    refine w_iload_n b dJx4a65c_add_72be8_12 rfl ?_
    refine w_aload_n b dJx4a65c_add_72be8_13 rfl rfl ?_
    refine w_aast b dJx4a65c_add_72be8_14 (by show va_up (va_up σ.1 σ.2 _) l _ σ.2 = _; rw [va_up_ne _ _ (Ne.symm hln), va_up_self]) (by omega) (by show va_up (va_up σ.1 σ.2 _) l _ k = _; rw [va_up_ne _ _ hkl, va_up_ne _ _ hkn]; exact hk) hCK (Or.inr ⟨rfl, hEK⟩) (iI_in (by omega) (by omega) (by omega)) ?_
    refine w_aload_n b dJx4a65c_add_72be8_15 rfl rfl ?_
    refine w_iload_n b dJx4a65c_add_72be8_16 rfl ?_
    refine z_iconst b dJx4a65c_add_72be8_17 ?_
    refine z_iadd b dJx4a65c_add_72be8_18 ?_
    refine w_putf b dJx4a65c_add_72be8_19 lfJx4a65c_48 gcJx4a65c gtJx4a65c_2 (fun z => by cases z) (by show va_up (va_up (va_up σ.1 σ.2 _) l _) σ.2 _ l = _; rw [va_up_ne _ _ hln, va_up_self]) (tlt rfl) rfl rfl ?_
    exact w_vret b dJx4a65c_add_72be8_22 rfl (by omega) (by omega) ⟨rfl, by rw [iI_clamp (by omega) (by omega)]; exact Prod.ext (add3_eq hln _ _ _ _) rfl⟩
set_option maxRecDepth 20000 in
theorem k_addB {l0 : Launch} {g : Gw} {σ : Sg} {l : Nat} {m : Int} {n : Int} {a len : Nat} {f : Nat → Option Nat} {k ck : Nat} {CK : String} {TK : u_T} {NK : Nat} {kf : List Value} (hl : σ.1 l = .inr (10, [.int (iI m), .ref a, .int (iI n)])) (hkl : k ≠ l) (hla : l ≠ a) (ha : σ.1 a = (.inl (4, len, .inr (.inr (.inr (.inr (f))))))) (hn : 0 ≤ n ∧ n < (len : Int) ∧ len ≤ 1000) (hk : σ.1 k = .inr (ck, kf)) (hCK : kcls[ck]? = some (CK, TK, NK)) (hEK : CK ∈ caC) : MD l0 g 1 mJx4a65c_add_9ea2d σ [.ref l, .ref k] 0 0 (some (.int (iI (1)))) (va_up (va_up σ.1 a (.inl (4, len, .inr (.inr (.inr (.inr (va_up f n.toNat (some k)))))))) l (.inr (10, [.int (iI (m + 1)), .ref a, .int (iI (n + 1))])), σ.2) := by
  refine MD.of (by decide +kernel) (by simp [Value.category]) (tle rfl) (fun X b => ?_)
  change WW X g _ _ 0 0 0 [some (.ref l), some (.ref k)] [] _
  refine w_aload_n b dJx4a65c_add_9ea2d_0 rfl rfl ?_
  refine w_dup b dJx4a65c_add_9ea2d_1 rfl ?_
  refine w_getf b dJx4a65c_add_9ea2d_2 lfJx4a65c_63 hl rfl ?_
  refine z_iconst b dJx4a65c_add_9ea2d_5 ?_
  refine z_iadd b dJx4a65c_add_9ea2d_6 ?_
  refine w_putf b dJx4a65c_add_9ea2d_7 lfJx4a65c_63 gcJx4a65c gtJx4a65c_0 (fun z => by cases z) hl (tlt rfl) rfl rfl ?_
  refine w_aload_n b dJx4a65c_add_9ea2d_10 rfl rfl ?_
  refine w_aload_n b dJx4a65c_add_9ea2d_11 rfl rfl ?_
  refine w_aload_n b dJx4a65c_add_9ea2d_12 rfl rfl ?_
  refine w_getf b dJx4a65c_add_9ea2d_13 lfJx4a65c_9 (va_up_self _ _ _) rfl ?_
  refine w_aload_n b dJx4a65c_add_9ea2d_16 rfl rfl ?_
  refine w_getf b dJx4a65c_add_9ea2d_17 lfJx4a65c_48 (va_up_self _ _ _) rfl ?_
  refine c_V3v b dJx4a65c_add_9ea2d_20 lmJx4a65c_131 (va_up_self _ _ _) (k_add3B (va_up_self _ _ _) hla (by show va_up σ.1 l _ a = _; rw [va_up_ne _ _ (Ne.symm hla)]; exact ha) hn (by show va_up σ.1 l _ k = _; rw [va_up_ne _ _ hkl]; exact hk) hCK hEK) (tle rfl) (by omega) (by omega) (by omega) ?_
  refine z_iconst b dJx4a65c_add_9ea2d_23 ?_
  exact z_zret b dJx4a65c_add_9ea2d_24 rfl (by omega) (by omega) (by omega) ⟨rfl, by first | rfl | exact Prod.ext (add1_eq hla _ _ _) rfl⟩
set_option maxRecDepth 20000 in
theorem k_addA {l0 : Launch} {g : Gw} {σ : Sg} {l : Nat} {m : Int}   {k ck : Nat} {CK : String} {TK : u_T} {NK : Nat} {kf : List Value} (hl : σ.1 l = .inr (10, [.int (iI m), .float 0, .int (iI 0)])) (hkl : k ≠ l) (hln : l ≠ σ.2) (hkn : k ≠ σ.2) (hk : σ.1 k = .inr (ck, kf)) (hCK : kcls[ck]? = some (CK, TK, NK)) (hEK : CK ∈ caC) : MD l0 g 4 mJx4a65c_add_9ea2d σ [.ref l, .ref k] 1 10 (some (.int (iI (1)))) (va_up (va_up σ.1 σ.2 (.inl (4, 10, .inr (.inr (.inr (.inr (va_up (fun _ => none) 0 (some k)))))))) l (.inr (10, [.int (iI (m + 1)), .ref σ.2, .int (iI (0 + 1))])), σ.2 + 1) := by
  refine MD.of (by decide +kernel) (by simp [Value.category]) (tle rfl) (fun X b => ?_)
  change WW X g _ _ 0 0 0 [some (.ref l), some (.ref k)] [] _
  refine w_aload_n b dJx4a65c_add_9ea2d_0 rfl rfl ?_
  refine w_dup b dJx4a65c_add_9ea2d_1 rfl ?_
  refine w_getf b dJx4a65c_add_9ea2d_2 lfJx4a65c_63 hl rfl ?_
  refine z_iconst b dJx4a65c_add_9ea2d_5 ?_
  refine z_iadd b dJx4a65c_add_9ea2d_6 ?_
  refine w_putf b dJx4a65c_add_9ea2d_7 lfJx4a65c_63 gcJx4a65c gtJx4a65c_0 (fun z => by cases z) hl (tlt rfl) rfl rfl ?_
  refine w_aload_n b dJx4a65c_add_9ea2d_10 rfl rfl ?_
  refine w_aload_n b dJx4a65c_add_9ea2d_11 rfl rfl ?_
  refine w_aload_n b dJx4a65c_add_9ea2d_12 rfl rfl ?_
  refine w_getf b dJx4a65c_add_9ea2d_13 lfJx4a65c_9 (va_up_self _ _ _) rfl ?_
  refine w_aload_n b dJx4a65c_add_9ea2d_16 rfl rfl ?_
  refine w_getf b dJx4a65c_add_9ea2d_17 lfJx4a65c_48 (va_up_self _ _ _) rfl ?_
  refine c_V3v b dJx4a65c_add_9ea2d_20 lmJx4a65c_131 (va_up_self _ _ _) (k_add3A (va_up_self _ _ _) hln hkl hkn (by show va_up σ.1 l _ k = _; rw [va_up_ne _ _ hkl]; exact hk) hCK hEK) (tle rfl) (by omega) (by omega) (by omega) ?_
  refine z_iconst b dJx4a65c_add_9ea2d_23 ?_
  exact z_zret b dJx4a65c_add_9ea2d_24 rfl (by omega) (by omega) (by omega) ⟨rfl, by first | rfl | exact Prod.ext (add1_eq hln _ _ _) rfl⟩
set_option maxRecDepth 20000 in
theorem k_addC {l0 : Launch} {g : Gw} {σ : Sg} {l : Nat} {m : Int}  {a : Nat} {ci : Nat} {CN : String} {T0 : u_T} {N0 : Nat} {f : Nat → Option Nat} {k ck : Nat} {CK : String} {TK : u_T} {NK : Nat} {kf : List Value} (hl : σ.1 l = .inr (10, [.int (iI m), .ref a, .int (iI 10)])) (hkl : k ≠ l) (hla : a ≠ l) (hln : l ≠ σ.2) (hkn : k ≠ σ.2) (hC : kcls[ci]? = some (CN, T0, N0)) (hE : CN ∈ caC) (ha : σ.1 a = (.inl (4, 10, .inr (.inr (.inr (.inr (f))))))) (han : a ≠ σ.2) (hel : ∀ i, i < 10 → ∀ y, f i = some y → ∃ fs, σ.1 y = .inr (ci, fs) ∧ y ≠ σ.2 ∧ y ≠ l) (hk : σ.1 k = .inr (ck, kf)) (hCK : kcls[ck]? = some (CK, TK, NK)) (hEK : CK ∈ caC) : MD l0 g 6 mJx4a65c_add_9ea2d σ [.ref l, .ref k] 1 15 (some (.int (iI (1)))) (va_up (va_up σ.1 σ.2 (.inl (4, 15, .inr (.inr (.inr (.inr (va_up (va_cpy f (fun _ => none) 0 0 10) 10 (some k)))))))) l (.inr (10, [.int (iI (m + 1)), .ref σ.2, .int (iI (10 + 1))])), σ.2 + 1) := by
  refine MD.of (by decide +kernel) (by simp [Value.category]) (tle rfl) (fun X b => ?_)
  change WW X g _ _ 0 0 0 [some (.ref l), some (.ref k)] [] _
  refine w_aload_n b dJx4a65c_add_9ea2d_0 rfl rfl ?_
  refine w_dup b dJx4a65c_add_9ea2d_1 rfl ?_
  refine w_getf b dJx4a65c_add_9ea2d_2 lfJx4a65c_63 hl rfl ?_
  refine z_iconst b dJx4a65c_add_9ea2d_5 ?_
  refine z_iadd b dJx4a65c_add_9ea2d_6 ?_
  refine w_putf b dJx4a65c_add_9ea2d_7 lfJx4a65c_63 gcJx4a65c gtJx4a65c_0 (fun z => by cases z) hl (tlt rfl) rfl rfl ?_
  refine w_aload_n b dJx4a65c_add_9ea2d_10 rfl rfl ?_
  refine w_aload_n b dJx4a65c_add_9ea2d_11 rfl rfl ?_
  refine w_aload_n b dJx4a65c_add_9ea2d_12 rfl rfl ?_
  refine w_getf b dJx4a65c_add_9ea2d_13 lfJx4a65c_9 (va_up_self _ _ _) rfl ?_
  refine w_aload_n b dJx4a65c_add_9ea2d_16 rfl rfl ?_
  refine w_getf b dJx4a65c_add_9ea2d_17 lfJx4a65c_48 (va_up_self _ _ _) rfl ?_
  refine c_V3v b dJx4a65c_add_9ea2d_20 lmJx4a65c_131 (va_up_self _ _ _) (k_add3C (va_up_self _ _ _) hln hkl hkn hC hE (by show va_up σ.1 l _ a = _; rw [va_up_ne _ _ hla]; exact ha) han (fun i hi y hy => by obtain ⟨fs, q1, q2, q3⟩ := hel i hi y hy; exact ⟨fs, by show va_up σ.1 l _ y = _; rw [va_up_ne _ _ q3]; exact q1, q2⟩) (by show va_up σ.1 l _ k = _; rw [va_up_ne _ _ hkl]; exact hk) hCK hEK) (tle rfl) (by omega) (by omega) (by omega) ?_
  refine z_iconst b dJx4a65c_add_9ea2d_23 ?_
  exact z_zret b dJx4a65c_add_9ea2d_24 rfl (by omega) (by omega) (by omega) ⟨rfl, by first | rfl | exact Prod.ext (add1_eq hln _ _ _) rfl⟩
