/-! THE CLASS: its constructor (by p77.py) -/
set_option maxRecDepth 20000 in
theorem l_X8_init {X : Cx} {l0 : Launch} {g : Gw} {Z : State → Prop} {w : Nat} {x : Int} (b : BX X l0 g mX8_init 5 256 8568) : ∀ (n d kc ks : Nat), d + n = 8 → kc = 240 + 2 * d → ks = 8056 + 64 * d → WW X g mX8_init.2.2.1 Z 256 8568 97 [some (.ref 0), some (.int (iI (x))), none] [] ((kp w (241 + 2 * 8) (.inr (8, [.int (iI (w : Int)), .ref 1, .ref 230, .ref 234, .ref 240])) (.inr (1, [.int (iI (w : Int)), .ref 2, .ref 3, .ref 4, .ref 5, .int 0])) (F0_ 16) (F0_ 17) (rarr 5 8 6 3) (rarr 6 40 30 5) (parr 7 8 241 2 8)), 241 + 2 * 8) → WW X g mX8_init.2.2.1 Z kc ks 72 [some (.ref 0), some (.int (iI (x))), some (.int (iI ((d : Int))))] [] ((kp w (241 + 2 * d) (.inr (8, [.int (iI (w : Int)), .ref 1, .ref 230, .ref 234, .ref 240])) (.inr (1, [.int (iI (w : Int)), .ref 2, .ref 3, .ref 4, .ref 5, .int 0])) (F0_ 16) (F0_ 17) (rarr 5 8 6 3) (rarr 6 40 30 5) (parr 7 8 241 2 d)), 241 + 2 * d) := by
  intro n
  induction n with
  | zero =>
    intro d kc ks h1 h2 h3 kk
    have e8 : d = 8 := by omega
    subst e8; subst h2; subst h3
    refine w_iload_n b dX8_init_72 rfl ?_
    refine z_bipush b dX8_init_73 (by decide) ?_
    refine z_icmp_ge (tgt := 97) b dX8_init_75 (by decide) (by omega) (fun c75 => ?_) (fun c75 => ?_)
    · refine ww_forget 2 ?_
      exact kk
    · exfalso; omega
  | succ n ih =>
    intro d kc ks h1 h2 h3 kk
    refine w_iload_n b dX8_init_72 rfl ?_
    refine z_bipush b dX8_init_73 (by decide) ?_
    refine z_icmp_ge (tgt := 97) b dX8_init_75 (by decide) (by omega) (fun c75 => ?_) (fun c75 => ?_)
    · exfalso; omega
    · refine w_aload_n b dX8_init_78 rfl rfl ?_
      refine w_getf b dX8_init_79 lfX8_46 rfl rfl ?_
      refine w_iload_n b dX8_init_82 rfl ?_
      refine w_new b dX8_init_83 lnX8_44 (by omega) (by simp <;> omega) ?_
      change WW X g _ _ (kc + 1) (ks + 4) _ _ _ _
      refine w_dup b dX8_init_86 rfl ?_
      refine c_IN0 b dX8_init_87 lmX8_50 (gw_at (i := 275) (by decide +kernel) rfl) rfl rfl (k_X4_init (va_up_self _ _ _) (by show 241 + 2 * d < 241 + 2 * d + 1; omega)) (tle rfl) (by omega) (by omega) (by omega) ?_
      refine w_aast b dX8_init_90 (show (va_up (va_up (va_up (kp w (241 + 2 * d) (.inr (8, [.int (iI (w : Int)), .ref 1, .ref 230, .ref 234, .ref 240])) (.inr (1, [.int (iI (w : Int)), .ref 2, .ref 3, .ref 4, .ref 5, .int 0])) (F0_ 16) (F0_ 17) (rarr 5 8 6 3) (rarr 6 40 30 5) (parr 7 8 241 2 d)) (241 + 2 * d) (.inr (4, [.null, .int 0, .int 0, .null]))) (241 + 2 * d + 1) (iarr 2 60 (fun _ => 0))) (241 + 2 * d) (.inr (4, [.ref (241 + 2 * d + 1), .int (iI 0), .int 0, .null]))) 240 = parr 7 8 241 2 d by rw [va_up_ne _ _ (by omega), va_up_ne _ _ (by omega), va_up_ne _ _ (by omega)]; rfl) (by omega) (va_up_self _ _ _) rfl (Or.inl rfl) (iI_in (by omega) (by omega) (by omega)) ?_
      refine ww_cast (σ' := ((kp w (241 + 2 * (d + 1)) (.inr (8, [.int (iI (w : Int)), .ref 1, .ref 230, .ref 234, .ref 240])) (.inr (1, [.int (iI (w : Int)), .ref 2, .ref 3, .ref 4, .ref 5, .int 0])) (F0_ 16) (F0_ 17) (rarr 5 8 6 3) (rarr 6 40 30 5) (parr 7 8 241 2 (d + 1))), 241 + 2 * (d + 1))) rfl rfl ?_ ?_
      · refine Prod.ext ?_ (by show 241 + 2 * d + 1 + 1 = 241 + 2 * (d + 1); omega)
        show va_up (va_up (va_up (va_up (kp w (241 + 2 * d) (.inr (8, [.int (iI (w : Int)), .ref 1, .ref 230, .ref 234, .ref 240])) (.inr (1, [.int (iI (w : Int)), .ref 2, .ref 3, .ref 4, .ref 5, .int 0])) (F0_ 16) (F0_ 17) (rarr 5 8 6 3) (rarr 6 40 30 5) (parr 7 8 241 2 d)) (241 + 2 * d) (.inr (4, [.null, .int 0, .int 0, .null]))) (241 + 2 * d + 1) (iarr 2 60 (fun _ => 0))) (241 + 2 * d) (.inr (4, [.ref (241 + 2 * d + 1), .int (iI 0), .int 0, .null]))) 240 _ = _
        refine kp_more (n := 241 + 2 * d) (e0 := (.inr (8, [.int (iI (w : Int)), .ref 1, .ref 230, .ref 234, .ref 240]))) (e4 := rarr 5 8 6 3) (e5 := rarr 6 40 30 5) (e6 := parr 7 8 241 2 d) (by omega) ?_ ?_ ?_ (fun q q1 q2 q3 q4 => ?_) (fun q q1 q2 q3 => ?_) (fun q q1 q2 => ?_)
        · rw [va_up_ne _ _ (by omega), va_up_ne _ _ (by omega), va_up_ne _ _ (by omega), va_up_ne _ _ (by omega)]; rfl
        · rw [va_up_ne _ _ (by omega), va_up_ne _ _ (by omega), va_up_ne _ _ (by omega), va_up_ne _ _ (by omega)]; rfl
        · rw [va_up_self, iI_clamp (by omega) (by omega), Int.toNat_natCast]; exact parr_s 7 8 241 2 d
        · rw [va_up_ne _ _ q4, va_up_ne _ _ (by omega), va_up_ne _ _ (by omega), va_up_ne _ _ (by omega)]
        · rw [va_up_ne _ _ (by omega)]
          have hv : V0_ q = .null := if_neg (by omega)
          rcases (show q = 241 + 2 * d ∨ q = 241 + 2 * d + 1 by omega) with z | z
          · rw [hv, z, va_up_self, ct_shelf (by omega)]; rfl
          · rw [z, va_up_ne _ _ (by omega), va_up_self, ct_shelf1 (by omega)]
        · rw [va_up_ne _ _ (by omega), va_up_ne _ _ (by omega), va_up_ne _ _ (by omega), va_up_ne _ _ (by omega), kp_out (by omega) (by omega) q2]
      refine z_iinc b dX8_init_91 rfl rfl rfl ?_
      refine w_goto (tgt := 72) b dX8_init_94 (by decide) ?_
      refine ww_cast (L' := [some (.ref 0), some (.int (iI (x))), some (.int (iI (((d + 1 : Nat) : Int))))]) (by rw [show ((d : Int) + 1) = ((d + 1 : Nat) : Int) by omega]; rfl) rfl rfl ?_
      exact ih (d + 1) _ _ (by omega) (by omega) (by omega) kk
def C0_ : Nat → Nat → Int := fun _ _ => 0
def A0_ : Nat → Int → Int := fun q => if q = 2 then F0_ 16 else if q = 3 then F0_ 17 else fun _ => 0
theorem kp_cp {w : Nat} : kp w 257 (.inr (8, [.int (iI (w : Int)), .ref 1, .ref 230, .ref 234, .ref 240])) (.inr (1, [.int (iI (w : Int)), .ref 2, .ref 3, .ref 4, .ref 5, .int 0])) (F0_ 16) (F0_ 17) (rarr 5 8 6 3) (rarr 6 40 30 5) (parr 7 8 241 2 8) = cp w C0_ A0_ V0_ (fun _ => nilE) := by
  funext q
  rcases Nat.lt_or_ge q 257 with z | z
  · rw [cp_lt z]
    by_cases c : 6 ≤ q ∧ q ≠ 240
    · rw [kp_big c.1 c.2 z]
      have e : A0_ q = fun _ => 0 := by unfold A0_; rw [if_neg (by omega), if_neg (by omega)]
      rw [e]
      rfl
    · rcases (show q = 0 ∨ q = 1 ∨ q = 2 ∨ q = 3 ∨ q = 4 ∨ q = 5 ∨ q = 240 by omega) with y | y | y | y | y | y | y <;> (subst y; rfl)
  · rw [cp_ge z, kp_out (by omega) z (by omega)]
set_option maxRecDepth 20000 in
theorem k_X8_init {l0 : Launch} {g : Gw} {w : Nat} {x : Int} (hx : inR x) (hw : 4 ≤ w ∧ w ≤ 40) (hwx : (w : Int) = 4 + x % 37) : MD l0 g 5 mX8_init (va_up (fun _ => nilE) 0 (.inr (8, [.int 0, .null, .null, .null, .null])), 1) [.ref 0, .int (iI (x))] 256 8568 (none) (cp w C0_ A0_ V0_ (fun _ => nilE), 257) := by
  refine MD.of (by decide +kernel) (by simp [Value.category]) (tle rfl) (fun X b => ?_)
  change WW X g _ _ 0 0 0 [some (.ref 0), some (.int (iI (x))), none] [] _
  refine w_aload_n b dX8_init_0 rfl rfl ?_
  refine w_objInit b dX8_init_1 loX8_3 lo_inst lo_code (tle rfl) (by omega) ?_
  refine w_aload_n b dX8_init_4 rfl rfl ?_
  refine z_iconst b dX8_init_5 ?_
  refine w_iload_n b dX8_init_6 rfl ?_
  refine z_bipush b dX8_init_7 (by decide) ?_
  refine c_S2 b dX8_init_9 lmX8_9 (k_floorMod hx) (tle rfl) (by omega) (by omega) (by omega) ?_
  refine z_iadd b dX8_init_12 ?_
  refine y_top hwx.symm ?_
  refine w_putf (fs := [.int 0, .null, .null, .null, .null]) b dX8_init_13 lfX8_15 gcX8 gtX8_0 (fun _ => rfl) rfl (tlt rfl) rfl rfl ?_
  refine w_aload_n b dX8_init_16 rfl rfl ?_
  refine w_new b dX8_init_17 lnX8_19 (by omega) (by simp <;> omega) ?_
  change WW X g _ _ (0 + 0 + 1) (0 + 0 + 6) _ _ _ _
  refine ww_cast (σ' := (in0 (.inr (8, [.int (iI (w : Int)), .null, .null, .null, .null])), 2)) rfl rfl (Prod.ext (funext fun j => by simp only [va_up]; unfold in0; (repeat' split) <;> first | rfl | omega) rfl) ?_
  refine w_dup b dX8_init_20 rfl ?_
  refine w_aload_n b dX8_init_21 rfl rfl ?_
  refine w_getf (fs := [.int (iI (w : Int)), .null, .null, .null, .null]) b dX8_init_22 lfX8_15 rfl rfl ?_
  refine c_I1 b dX8_init_25 lmX8_21 (k_X1_init hw) (tle rfl) (by omega) (by omega) (by omega) ?_
  refine w_putf (fs := [.int (iI (w : Int)), .null, .null, .null, .null]) b dX8_init_28 lfX8_24 gcX8 gtX8_1 (fun _ => rfl) rfl (tlt rfl) rfl rfl ?_
  refine ww_cast (σ' := ((kp w 230 (.inr (8, [.int (iI (w : Int)), .ref 1, .null, .null, .null])) (.inr (1, [.int (iI (w : Int)), .ref 2, .ref 3, .ref 4, .ref 5, .int 0])) (F0_ 16) (F0_ 17) (rarr 5 8 6 3) (rarr 6 40 30 5) nilE), 230)) rfl rfl (Prod.ext (kp_0 _) rfl) ?_
  refine w_aload_n b dX8_init_31 rfl rfl ?_
  refine w_new b dX8_init_32 lnX8_28 (by omega) (by simp <;> omega) ?_
  change WW X g _ _ (0 + 0 + 1 + 228 + 1) (0 + 0 + 6 + 6858 + 9) _ _ _ _
  refine w_dup b dX8_init_35 rfl ?_
  refine w_aload_n b dX8_init_36 rfl rfl ?_
  refine w_getf (fs := [.int (iI (w : Int)), .ref 1, .null, .null, .null]) b dX8_init_37 lfX8_15 rfl rfl ?_
  refine w_aload_n b dX8_init_40 rfl rfl ?_
  refine w_getf (fs := [.int (iI (w : Int)), .ref 1, .null, .null, .null]) b dX8_init_41 lfX8_24 rfl rfl ?_
  refine c_I2 b dX8_init_44 lmX8_30 (k_X0_init (σ := (va_up (kp w 230 (.inr (8, [.int (iI (w : Int)), .ref 1, .null, .null, .null])) (.inr (1, [.int (iI (w : Int)), .ref 2, .ref 3, .ref 4, .ref 5, .int 0])) (F0_ 16) (F0_ 17) (rarr 5 8 6 3) (rarr 6 40 30 5) nilE) 230 (.inr (0, [.int 0, .null, .null, .null, .null, .int 0, .int 0, .int 0, .int 0])), 231)) (q := 230) (by rfl) (by show 230 < 231; omega)) (tle rfl) (by omega) (by omega) (by omega) ?_
  refine ww_cast (σ' := ((kp w 234 (.inr (8, [.int (iI (w : Int)), .ref 1, .null, .null, .null])) (.inr (1, [.int (iI (w : Int)), .ref 2, .ref 3, .ref 4, .ref 5, .int 0])) (F0_ 16) (F0_ 17) (rarr 5 8 6 3) (rarr 6 40 30 5) nilE), 234)) rfl rfl ?_ ?_
  · refine Prod.ext ?_ rfl
    show va_up (va_up (va_up (va_up (va_up (kp w 230 (.inr (8, [.int (iI (w : Int)), .ref 1, .null, .null, .null])) (.inr (1, [.int (iI (w : Int)), .ref 2, .ref 3, .ref 4, .ref 5, .int 0])) (F0_ 16) (F0_ 17) (rarr 5 8 6 3) (rarr 6 40 30 5) nilE) 230 (.inr (0, [.int 0, .null, .null, .null, .null, .int 0, .int 0, .int 0, .int 0]))) 231 (.inr (10, [.int (iI 0), .float 0, .int (iI 0)]))) 232 (iarr 1 1000 (fun _ => 0))) 233 (iarr 0 12 (fun _ => 0))) 230 (.inr (0, [.int (iI (w : Int)), .ref 1, .ref 231, .ref 232, .ref 233, .int 0, .int 0, .int 0, .int 0])) = _
    refine kp_more (n := 230) (e0 := (.inr (8, [.int (iI (w : Int)), .ref 1, .null, .null, .null]))) (e4 := rarr 5 8 6 3) (e5 := rarr 6 40 30 5) (e6 := nilE) (by omega) ?_ ?_ ?_ (fun q q1 q2 q3 q4 => ?_) (fun q q1 q2 q3 => ?_) (fun q q1 q2 => ?_)
    · rw [va_up_ne _ _ (by omega), va_up_ne _ _ (by omega), va_up_ne _ _ (by omega), va_up_ne _ _ (by omega), va_up_ne _ _ (by omega)]; rfl
    · rw [va_up_ne _ _ (by omega), va_up_ne _ _ (by omega), va_up_ne _ _ (by omega), va_up_ne _ _ (by omega), va_up_ne _ _ (by omega)]; rfl
    · rw [va_up_ne _ _ (by omega), va_up_ne _ _ (by omega), va_up_ne _ _ (by omega), va_up_ne _ _ (by omega), va_up_ne _ _ (by omega)]; rfl
    · rw [va_up_ne _ _ (by omega), va_up_ne _ _ (by omega), va_up_ne _ _ (by omega), va_up_ne _ _ (by omega), va_up_ne _ _ (by omega)]
    · rcases (show q = 230 ∨ q = 231 ∨ q = 232 ∨ q = 233 by omega) with z | z | z | z
      · rw [z, va_up_self, ct_230]; rfl
      · rw [z, va_up_ne _ _ (by omega), va_up_ne _ _ (by omega), va_up_ne _ _ (by omega), va_up_self, ct_231]; rfl
      · rw [z, va_up_ne _ _ (by omega), va_up_ne _ _ (by omega), va_up_self, ct_232]
      · rw [z, va_up_ne _ _ (by omega), va_up_self, ct_233]
    · rw [va_up_ne _ _ (by omega), va_up_ne _ _ (by omega), va_up_ne _ _ (by omega), va_up_ne _ _ (by omega), va_up_ne _ _ (by omega), kp_out (by omega) (by omega) q2]
  refine w_putf (fs := [.int (iI (w : Int)), .ref 1, .null, .null, .null]) b dX8_init_47 lfX8_33 gcX8 gtX8_2 (fun _ => rfl) rfl (tlt rfl) rfl rfl ?_
  refine ww_cast (σ' := ((kp w 234 (.inr (8, [.int (iI (w : Int)), .ref 1, .ref 230, .null, .null])) (.inr (1, [.int (iI (w : Int)), .ref 2, .ref 3, .ref 4, .ref 5, .int 0])) (F0_ 16) (F0_ 17) (rarr 5 8 6 3) (rarr 6 40 30 5) nilE), 234)) rfl rfl (Prod.ext (kp_0 _) rfl) ?_
  refine w_aload_n b dX8_init_50 rfl rfl ?_
  refine w_new b dX8_init_51 lnX8_37 (by omega) (by simp <;> omega) ?_
  change WW X g _ _ (0 + 0 + 1 + 228 + 1 + 3 + 1) (0 + 0 + 6 + 6858 + 9 + 1015 + 8) _ _ _ _
  refine w_dup b dX8_init_54 rfl ?_
  refine c_IN0 b dX8_init_55 lmX8_39 (gw_at (i := 239) (by decide +kernel) rfl) rfl rfl (k_X6_init (σ := (va_up (kp w 234 (.inr (8, [.int (iI (w : Int)), .ref 1, .ref 230, .null, .null])) (.inr (1, [.int (iI (w : Int)), .ref 2, .ref 3, .ref 4, .ref 5, .int 0])) (F0_ 16) (F0_ 17) (rarr 5 8 6 3) (rarr 6 40 30 5) nilE) 234 (.inr (6, [.null, .null, .null, .null, .null, .int 0, .int 0, .int 0])), 235)) (q := 234) (by rfl) (by show 234 < 235; omega)) (tle rfl) (by omega) (by omega) (by omega) ?_
  refine ww_cast (σ' := ((kp w 240 (.inr (8, [.int (iI (w : Int)), .ref 1, .ref 230, .null, .null])) (.inr (1, [.int (iI (w : Int)), .ref 2, .ref 3, .ref 4, .ref 5, .int 0])) (F0_ 16) (F0_ 17) (rarr 5 8 6 3) (rarr 6 40 30 5) nilE), 240)) rfl rfl ?_ ?_
  · refine Prod.ext ?_ rfl
    show va_up (va_up (va_up (va_up (va_up (va_up (va_up (kp w 234 (.inr (8, [.int (iI (w : Int)), .ref 1, .ref 230, .null, .null])) (.inr (1, [.int (iI (w : Int)), .ref 2, .ref 3, .ref 4, .ref 5, .int 0])) (F0_ 16) (F0_ 17) (rarr 5 8 6 3) (rarr 6 40 30 5) nilE) 234 (.inr (6, [.null, .null, .null, .null, .null, .int 0, .int 0, .int 0]))) 235 (iarr 0 8 (fun _ => 0))) 236 (iarr 0 8 (fun _ => 0))) 237 (iarr 0 64 (fun _ => 0))) 238 (iarr 0 64 (fun _ => 0))) 239 (iarr 0 8 (fun _ => 0))) 234 (.inr (6, [.ref 235, .ref 236, .ref 237, .ref 238, .ref 239, .int 0, .int 0, .int 0])) = _
    refine kp_more (n := 234) (e0 := (.inr (8, [.int (iI (w : Int)), .ref 1, .ref 230, .null, .null]))) (e4 := rarr 5 8 6 3) (e5 := rarr 6 40 30 5) (e6 := nilE) (by omega) ?_ ?_ ?_ (fun q q1 q2 q3 q4 => ?_) (fun q q1 q2 q3 => ?_) (fun q q1 q2 => ?_)
    · rw [va_up_ne _ _ (by omega), va_up_ne _ _ (by omega), va_up_ne _ _ (by omega), va_up_ne _ _ (by omega), va_up_ne _ _ (by omega), va_up_ne _ _ (by omega), va_up_ne _ _ (by omega)]; rfl
    · rw [va_up_ne _ _ (by omega), va_up_ne _ _ (by omega), va_up_ne _ _ (by omega), va_up_ne _ _ (by omega), va_up_ne _ _ (by omega), va_up_ne _ _ (by omega), va_up_ne _ _ (by omega)]; rfl
    · rw [va_up_ne _ _ (by omega), va_up_ne _ _ (by omega), va_up_ne _ _ (by omega), va_up_ne _ _ (by omega), va_up_ne _ _ (by omega), va_up_ne _ _ (by omega), va_up_ne _ _ (by omega)]; rfl
    · rw [va_up_ne _ _ (by omega), va_up_ne _ _ (by omega), va_up_ne _ _ (by omega), va_up_ne _ _ (by omega), va_up_ne _ _ (by omega), va_up_ne _ _ (by omega), va_up_ne _ _ (by omega)]
    · rcases (show q = 234 ∨ q = 235 ∨ q = 236 ∨ q = 237 ∨ q = 238 ∨ q = 239 by omega) with z | z | z | z | z | z
      · rw [z, va_up_self, ct_234]; rfl
      · rw [z, va_up_ne _ _ (by omega), va_up_ne _ _ (by omega), va_up_ne _ _ (by omega), va_up_ne _ _ (by omega), va_up_ne _ _ (by omega), va_up_self, ct_235]
      · rw [z, va_up_ne _ _ (by omega), va_up_ne _ _ (by omega), va_up_ne _ _ (by omega), va_up_ne _ _ (by omega), va_up_self, ct_236]
      · rw [z, va_up_ne _ _ (by omega), va_up_ne _ _ (by omega), va_up_ne _ _ (by omega), va_up_self, ct_237]
      · rw [z, va_up_ne _ _ (by omega), va_up_ne _ _ (by omega), va_up_self, ct_238]
      · rw [z, va_up_ne _ _ (by omega), va_up_self, ct_239]
    · rw [va_up_ne _ _ (by omega), va_up_ne _ _ (by omega), va_up_ne _ _ (by omega), va_up_ne _ _ (by omega), va_up_ne _ _ (by omega), va_up_ne _ _ (by omega), va_up_ne _ _ (by omega), kp_out (by omega) (by omega) q2]
  refine w_putf (fs := [.int (iI (w : Int)), .ref 1, .ref 230, .null, .null]) b dX8_init_58 lfX8_40 gcX8 gtX8_3 (fun _ => rfl) rfl (tlt rfl) rfl rfl ?_
  refine ww_cast (σ' := ((kp w 240 (.inr (8, [.int (iI (w : Int)), .ref 1, .ref 230, .ref 234, .null])) (.inr (1, [.int (iI (w : Int)), .ref 2, .ref 3, .ref 4, .ref 5, .int 0])) (F0_ 16) (F0_ 17) (rarr 5 8 6 3) (rarr 6 40 30 5) nilE), 240)) rfl rfl (Prod.ext (kp_0 _) rfl) ?_
  refine w_aload_n b dX8_init_61 rfl rfl ?_
  refine z_bipush b dX8_init_62 (by decide) ?_
  refine z_anew (t := 7) (N := 8) b dX8_init_64 lcX8_44 (by omega) (by rfl) (by omega) (by omega) (by omega) ?_
  refine ww_cast (σ' := ((kp w 241 (.inr (8, [.int (iI (w : Int)), .ref 1, .ref 230, .ref 234, .null])) (.inr (1, [.int (iI (w : Int)), .ref 2, .ref 3, .ref 4, .ref 5, .int 0])) (F0_ 16) (F0_ 17) (rarr 5 8 6 3) (rarr 6 40 30 5) (parr 7 8 241 2 0)), 241)) rfl rfl ?_ ?_
  · refine Prod.ext ?_ rfl
    show va_up (kp w 240 (.inr (8, [.int (iI (w : Int)), .ref 1, .ref 230, .ref 234, .null])) (.inr (1, [.int (iI (w : Int)), .ref 2, .ref 3, .ref 4, .ref 5, .int 0])) (F0_ 16) (F0_ 17) (rarr 5 8 6 3) (rarr 6 40 30 5) nilE) 240 (parr 7 8 241 2 0) = _
    refine kp_more (n := 240) (e0 := (.inr (8, [.int (iI (w : Int)), .ref 1, .ref 230, .ref 234, .null]))) (e4 := rarr 5 8 6 3) (e5 := rarr 6 40 30 5) (e6 := nilE) (by omega) ?_ ?_ ?_ (fun q q1 q2 q3 q4 => ?_) (fun q q1 q2 q3 => ?_) (fun q q1 q2 => ?_)
    · rw [va_up_ne _ _ (by omega)]; rfl
    · rw [va_up_ne _ _ (by omega)]; rfl
    · rw [va_up_self]
    · rw [va_up_ne _ _ (by omega)]
    · omega
    · rw [va_up_ne _ _ (by omega), kp_out (by omega) (by omega) q2]
  refine w_putf (fs := [.int (iI (w : Int)), .ref 1, .ref 230, .ref 234, .null]) b dX8_init_67 lfX8_46 gcX8 gtX8_4 (fun _ => rfl) rfl (tlt rfl) rfl rfl ?_
  refine ww_cast (σ' := ((kp w 241 (.inr (8, [.int (iI (w : Int)), .ref 1, .ref 230, .ref 234, .ref 240])) (.inr (1, [.int (iI (w : Int)), .ref 2, .ref 3, .ref 4, .ref 5, .int 0])) (F0_ 16) (F0_ 17) (rarr 5 8 6 3) (rarr 6 40 30 5) (parr 7 8 241 2 0)), 241)) rfl rfl (Prod.ext (kp_0 _) rfl) ?_
  refine z_iconst b dX8_init_70 ?_
  refine w_istore_n b dX8_init_71 (tlt rfl) rfl ?_
  change WW X g _ _ 240 8056 72 [some (.ref 0), some (.int (iI (x))), some (.int (iI (((0 : Nat) : Int))))] [] ((kp w (241 + 2 * 0) (.inr (8, [.int (iI (w : Int)), .ref 1, .ref 230, .ref 234, .ref 240])) (.inr (1, [.int (iI (w : Int)), .ref 2, .ref 3, .ref 4, .ref 5, .int 0])) (F0_ 16) (F0_ 17) (rarr 5 8 6 3) (rarr 6 40 30 5) (parr 7 8 241 2 0)), 241 + 2 * 0)
  refine l_X8_init b 8 0 240 8056 (by omega) (by omega) (by omega) ?_
  exact w_vret b dX8_init_97 rfl (by omega) (by omega) ⟨rfl, Prod.ext kp_cp rfl⟩
