/-! THE REFERENCE: call (by p30.py) -/
/-- called, knots, begun -/
abbrev CS : Type := Int × (Int → Int) × Int
/-- one step x of a chant that was called with wide at base -/
def sgS (I : Nat → Int) (F : Nat → Int → Int) (rec : Int → Int → CS → Option CS) (x base wide : Int) (t : CS) : Option CS :=
  if 1000 < t.2.2 + 1 then none
  else if F 4 x = 4 then rec (F 5 x) (wide - (t.1 - base)) (t.1, t.2.1, t.2.2 + 1)
  else if t.1 + amF (F 4 x) (F 5 x) (t.1 - base) wide ≤ 1000 then some (t.1 + amF (F 4 x) (F 5 x) (t.1 - base) wide, exF (vaF (F 4 x) (F 6 x) (blF I F (F 5 x)) base t.1 t.2.1) t.1 (amF (F 4 x) (F 5 x) (t.1 - base) wide) t.2.1, t.2.2 + 1)
  else none
/-- n steps of the chant c from s on -/
def sgL (I : Nat → Int) (F : Nat → Int → Int) (rec : Int → Int → CS → Option CS) (c base wide : Int) : Nat → Int → CS → Option CS
  | 0, _, t => some t
  | n + 1, s, t => match sgS I F rec (12 * c + s) base wide t with
    | none => none
    | some t1 => sgL I F rec c base wide n (s + 1) t1
def sg (I : Nat → Int) (F : Nat → Int → Int) : Nat → Int → Int → CS → Option CS
  | 0, _, _, _ => none
  | d + 1, c, wide, t => sgL I F (sg I F d) c t.1 wide (F 3 c).toNat 0 t
/-- the knots at the ends of the steps, put into e -/
def edL (I : Nat → Int) (F : Nat → Int → Int) (rec : Int → Int → CS → Option CS) (c base wide : Int) : Nat → Int → CS → (Int → Int) → Int → Int
  | 0, _, _, e => e
  | n + 1, s, t, e => match sgS I F rec (12 * c + s) base wide t with
    | none => e
    | some t1 => edL I F rec c base wide n (s + 1) t1 (fu e s t1.1)
/-- chants and steps are as told -/
def wfC (I : Nat → Int) (F : Nat → Int → Int) : Prop := ∀ c : Int, 0 ≤ c → c < I 2 → (0 ≤ F 3 c ∧ F 3 c ≤ 12) ∧ ∀ s : Int, 0 ≤ s → s < F 3 c → (0 ≤ F 4 (12 * c + s) ∧ F 4 (12 * c + s) ≤ 5) ∧ (F 4 (12 * c + s) = 0 → 1 ≤ F 5 (12 * c + s) ∧ F 5 (12 * c + s) ≤ 40) ∧ ((F 4 (12 * c + s) = 3 ∨ F 4 (12 * c + s) = 5) → 1 ≤ F 5 (12 * c + s) ∧ F 5 (12 * c + s) ≤ 9) ∧ (F 4 (12 * c + s) = 4 → 0 ≤ F 5 (12 * c + s) ∧ F 5 (12 * c + s) < c) ∧ ((F 4 (12 * c + s) = 0 ∨ F 4 (12 * c + s) = 1) → 0 ≤ F 6 (12 * c + s) ∧ F 6 (12 * c + s) ≤ 7)
/-- the reference's arrays with what a call uses -/
def cS (F : Nat → Int → Int) (f e S T U V : Int → Int) : Nat → Int → Int := va_up (va_up (va_up (va_up (va_up (va_up F 7 f) 8 e) 9 S) 10 T) 11 U) 12 V
theorem cS_7 (F : Nat → Int → Int) (f e S T U V f' : Int → Int) : va_up (cS F f e S T U V) 7 f' = cS F f' e S T U V := by
  funext j
  unfold cS va_up
  (repeat' split) <;> first | rfl | omega
theorem cS_8 (F : Nat → Int → Int) (f e S T U V f' : Int → Int) : va_up (cS F f e S T U V) 8 f' = cS F f f' S T U V := by
  funext j
  unfold cS va_up
  (repeat' split) <;> first | rfl | omega
theorem cS_9 (F : Nat → Int → Int) (f e S T U V f' : Int → Int) : va_up (cS F f e S T U V) 9 f' = cS F f e f' T U V := by
  funext j
  unfold cS va_up
  (repeat' split) <;> first | rfl | omega
theorem cS_10 (F : Nat → Int → Int) (f e S T U V f' : Int → Int) : va_up (cS F f e S T U V) 10 f' = cS F f e S f' U V := by
  funext j
  unfold cS va_up
  (repeat' split) <;> first | rfl | omega
theorem cS_11 (F : Nat → Int → Int) (f e S T U V f' : Int → Int) : va_up (cS F f e S T U V) 11 f' = cS F f e S T f' V := by
  funext j
  unfold cS va_up
  (repeat' split) <;> first | rfl | omega
theorem cS_12 (F : Nat → Int → Int) (f e S T U V f' : Int → Int) : va_up (cS F f e S T U V) 12 f' = cS F f e S T U f' := by
  funext j
  unfold cS va_up
  (repeat' split) <;> first | rfl | omega
theorem exF_c7 {I : Nat → Int} {F : Nat → Int → Int} {x base wide a : Int} {f : Int → Int} (hk : 0 ≤ F 4 x ∧ F 4 x ≤ 5) (hk4 : ¬ F 4 x = 4) (h5 : (F 4 x = 3 ∨ F 4 x = 5) → 1 ≤ F 5 x ∧ F 5 x ≤ 9) (h6 : (F 4 x = 0 ∨ F 4 x = 1) → 0 ≤ F 6 x ∧ F 6 x ≤ 7) (hb : 0 ≤ base ∧ base ≤ a) (ha : a ≤ 1000) (h21 : 0 ≤ I 21 ∧ I 21 ≤ 40) (h1_ : 4 ≤ I 1 ∧ I 1 ≤ 40) (h23 : ∀ j, 0 ≤ j → j < 1600 → 0 ≤ F 23 j ∧ F 23 j ≤ 7) (hc7 : col7 f) : col7 (exF (vaF (F 4 x) (F 6 x) (blF I F (F 5 x)) base a f) a (amF (F 4 x) (F 5 x) (a - base) wide) f) := by
  refine col7_ex hc7 (fun j h1 h2 => ?_)
  unfold amF at h2
  unfold vaF
  by_cases k01 : F 4 x = 0 ∨ F 4 x = 1
  · rw [if_pos k01]; exact h6 k01
  · rw [if_neg k01]
    by_cases k2 : F 4 x = 2
    · rw [if_pos k2]
      rw [if_neg (by omega), if_pos k2] at h2
      exact hc7 _ (by omega) (by omega)
    · rw [if_neg k2]
      by_cases k3 : F 4 x = 3
      · rw [if_pos k3]
        rw [if_neg (by omega), if_neg k2, if_pos k3] at h2
        have h0 : 0 < a - base := by
          rcases Int.lt_or_le 0 (a - base) with z | z
          · exact z
          · have e : a - base = 0 := by omega
            rw [e, Int.zero_mul] at h2
            omega
        have m1 := Int.emod_nonneg j (b := a - base) (by omega)
        have m2 := Int.emod_lt_of_pos j h0
        exact hc7 _ (by omega) (by omega)
      · rw [if_neg k3]
        exact blF_rng h23 h21 h1_ (h5 (Or.inr (by omega))).1 (by omega)
theorem sgL_none {I : Nat → Int} {F : Nat → Int → Int} {rec : Int → Int → CS → Option CS} {c base wide s : Int} {n : Nat} {t : CS} (h : sgS I F rec (12 * c + s) base wide t = none) : sgL I F rec c base wide (n + 1) s t = none := by
  unfold sgL
  rw [h]
theorem amF_nn {k n own wide : Int} (hn : (k = 0 ∨ k = 3) → 0 ≤ n) (ho : 0 ≤ own) : 0 ≤ amF k n own wide := by
  unfold amF
  split
  · exact hn (by omega)
  · split
    · exact ho
    · split
      · exact Int.mul_nonneg ho (hn (by omega))
      · split <;> omega
set_option maxRecDepth 20000 in
theorem call_run {X : Cx} {l0 : Launch} {g : Gw} {Q : Option Value → Sg → Prop} {mo nx : Nat} {h0 : Nat → va_E} {I : Nat → Int} {F : Nat → Int → Int} (b : BX X l0 g mX9_call 3 0 0) {c0 : Int} (h2_ : 0 ≤ I 2 ∧ I 2 ≤ 12) (h21 : 0 ≤ I 21 ∧ I 21 ≤ 40) (h1_ : 4 ≤ I 1 ∧ I 1 ≤ 40) (h23 : ∀ j, 0 ≤ j → j < 1600 → 0 ≤ F 23 j ∧ F 23 j ≤ 7) (wf : wfC I F) : ∀ (d : Nat), ∀ (n : Nat) (s c k wide base a bg : Int) (f e S T U V : Int → Int), c ≤ d → (0 ≤ c ∧ c < I 2) → (0 ≤ k ∧ k + c ≤ 11) → s + n = F 3 c → 0 ≤ s → S k = c → T k = s → U k = base → V k = wide → (0 ≤ base ∧ base ≤ a ∧ a ≤ 1000) → (-1000 * k ≤ wide ∧ wide ≤ 1000) → (0 ≤ bg ∧ bg ≤ 1000) → col7 f → (sgL I F (sg I F d) c base wide n s (a, f, bg) = none → ∀ (a' : Int) (f' e' S' T' U' V' : Int → Int), (0 ≤ a' ∧ a' ≤ 1000) → col7 f' → Q (some (.int (iI (-6)))) (mp mo h0 (va_up I 13 (a')) (cS F (f') (e') (S') (T') (U') (V')), nx)) → (∀ (t' : CS) (S' T' U' V' : Int → Int), sgL I F (sg I F d) c base wide n s (a, f, bg) = some t' → (0 ≤ t'.1 ∧ a ≤ t'.1 ∧ t'.1 ≤ 1000) → (0 ≤ t'.2.2 ∧ t'.2.2 ≤ 1000) → col7 t'.2.1 → (∀ j, 0 ≤ j → j < k → S' j = S j ∧ T' j = T j ∧ U' j = U j ∧ V' j = V j) → WW X g mX9_call.2.2.1 (ZQ X g Q 0 0) 0 0 71 [some (.ref mo), some (.int (iI c0)), some (.int (iI (t'.2.2))), some (.int (iI (k + 1))), some (.int (iI (k))), none] [] (mp mo h0 (va_up I 13 (t'.1)) (cS F (t'.2.1) ((if k = 0 then edL I F (sg I F d) c base wide n s (a, f, bg) e else e)) (S') (T') (U') (V')), nx)) → WW X g mX9_call.2.2.1 (ZQ X g Q 0 0) 0 0 40 [some (.ref mo), some (.int (iI c0)), some (.int (iI (bg))), some (.int (iI (k + 1))), none, none] [] (mp mo h0 (va_up I 13 (a)) (cS F (f) (e) (S) (T) (U) (V)), nx) := by
  intro d
  induction d with
  | zero =>
    intro n
    induction n with
    | zero =>
      intro s c k wide base a bg f e S T U V hcd hc hk hsn hs hS hT hU hV hb hw hbg hc7 kw ko
      have hst := (wf c hc.1 hc.2).1
      have ko := ko (a, f, bg) S T U V rfl (by show 0 ≤ a ∧ a ≤ a ∧ a ≤ 1000; omega) hbg hc7 (fun j _ _ => ⟨rfl, rfl, rfl, rfl⟩)
      have ee : (if k = 0 then edL I F (sg I F 0) c base wide 0 s (a, f, bg) e else e) = e := by split <;> rfl
      rw [ee] at ko
      refine w_iload_n b dX9_call_40 rfl ?_
      refine z_if_le (tgt := 267) b dX9_call_41 (by decide) (by omega) (fun c41 => ?_) (fun c41 => ?_)
      · exfalso; omega
      · refine w_iload_n b dX9_call_44 rfl ?_
        refine z_iconst b dX9_call_45 ?_
        refine z_isub b dX9_call_46 ?_
        refine w_istore b dX9_call_47 (tlt rfl) rfl ?_
        refine ww_cast (L' := [some (.ref mo), some (.int (iI c0)), some (.int (iI (bg))), some (.int (iI (k + 1))), some (.int (iI (k))), none]) (by rw [show k + 1 - 1 = k by omega]; rfl) rfl rfl ?_
        refine w_aload_n b dX9_call_49 rfl rfl ?_
        refine m_get b dX9_call_50 lfX9_38 rfl ?_
        refine w_iload b dX9_call_53 rfl ?_
        refine m_ald (v := s) b dX9_call_55 rfl (by omega) hT ?_
        refine w_aload_n b dX9_call_56 rfl rfl ?_
        refine m_get b dX9_call_57 lfX9_16 rfl ?_
        refine w_aload_n b dX9_call_60 rfl rfl ?_
        refine m_get b dX9_call_61 lfX9_35 rfl ?_
        refine w_iload b dX9_call_64 rfl ?_
        refine m_ald (v := c) b dX9_call_66 rfl (by omega) hS ?_
        refine m_ald (v := F 3 c) b dX9_call_67 rfl (by omega) rfl ?_
        refine z_icmp_ne (tgt := 99) b dX9_call_68 (by decide) (by omega) (fun c68 => ?_) (fun c68 => ?_)
        · exfalso; omega
        · exact ko
    | succ n ih =>
      intro s c k wide base a bg f e S T U V hcd hc hk hsn hs hS hT hU hV hb hw hbg hc7 kw ko
      obtain ⟨hst, hwf⟩ := wf c hc.1 hc.2
      obtain ⟨w1, w2, w3, w4, w5⟩ := hwf s hs (by omega)
      refine w_iload_n b dX9_call_40 rfl ?_
      refine z_if_le (tgt := 267) b dX9_call_41 (by decide) (by omega) (fun c41 => ?_) (fun c41 => ?_)
      · exfalso; omega
      · refine w_iload_n b dX9_call_44 rfl ?_
        refine z_iconst b dX9_call_45 ?_
        refine z_isub b dX9_call_46 ?_
        refine w_istore b dX9_call_47 (tlt rfl) rfl ?_
        refine ww_cast (L' := [some (.ref mo), some (.int (iI c0)), some (.int (iI (bg))), some (.int (iI (k + 1))), some (.int (iI (k))), none]) (by rw [show k + 1 - 1 = k by omega]; rfl) rfl rfl ?_
        refine w_aload_n b dX9_call_49 rfl rfl ?_
        refine m_get b dX9_call_50 lfX9_38 rfl ?_
        refine w_iload b dX9_call_53 rfl ?_
        refine m_ald (v := s) b dX9_call_55 rfl (by omega) hT ?_
        refine w_aload_n b dX9_call_56 rfl rfl ?_
        refine m_get b dX9_call_57 lfX9_16 rfl ?_
        refine w_aload_n b dX9_call_60 rfl rfl ?_
        refine m_get b dX9_call_61 lfX9_35 rfl ?_
        refine w_iload b dX9_call_64 rfl ?_
        refine m_ald (v := c) b dX9_call_66 rfl (by omega) hS ?_
        refine m_ald (v := F 3 c) b dX9_call_67 rfl (by omega) rfl ?_
        refine z_icmp_ne (tgt := 99) b dX9_call_68 (by decide) (by omega) (fun c68 => ?_) (fun c68 => ?_)
        · refine z_bipush b dX9_call_99 (by decide) ?_
          refine w_aload_n b dX9_call_101 rfl rfl ?_
          refine m_get b dX9_call_102 lfX9_35 rfl ?_
          refine w_iload b dX9_call_105 rfl ?_
          refine m_ald (v := c) b dX9_call_107 rfl (by omega) hS ?_
          refine z_imul b dX9_call_108 ?_
          refine w_aload_n b dX9_call_109 rfl rfl ?_
          refine m_get b dX9_call_110 lfX9_38 rfl ?_
          refine w_iload b dX9_call_113 rfl ?_
          refine m_ald (v := s) b dX9_call_115 rfl (by omega) hT ?_
          refine z_iadd b dX9_call_116 ?_
          refine w_istore b dX9_call_117 (tlt rfl) rfl ?_
          refine w_aload_n b dX9_call_119 rfl rfl ?_
          refine m_get b dX9_call_120 lfX9_38 rfl ?_
          refine w_iload b dX9_call_123 rfl ?_
          refine w_dup2 b dX9_call_125 rfl rfl ?_
          refine m_ald (v := s) b dX9_call_126 rfl (by omega) hT ?_
          refine z_iconst b dX9_call_127 ?_
          refine z_iadd b dX9_call_128 ?_
          refine m_ast b dX9_call_129 rfl (by omega) ?_
          refine ww_cast (σ' := (mp mo h0 (va_up I 13 (a)) (cS F (f) (e) (S) (fu T k (s + 1)) (U) (V)), nx)) rfl rfl (by rw [cS_10]; rfl) ?_
          refine z_iinc b dX9_call_130 rfl rfl rfl ?_
          refine w_iload_n b dX9_call_133 rfl ?_
          refine z_sipush b dX9_call_134 (by decide) ?_
          refine z_icmp_le (tgt := 143) b dX9_call_137 (by decide) (by omega) (fun c137 => ?_) (fun c137 => ?_)
          · refine w_aload_n b dX9_call_143 rfl rfl ?_
            refine m_get b dX9_call_144 lfX9_20 rfl ?_
            refine w_iload b dX9_call_147 rfl ?_
            refine m_ald (v := F 4 (12 * c + s)) b dX9_call_149 rfl (by omega) rfl ?_
            refine z_iconst b dX9_call_150 ?_
            refine z_icmp_ne (tgt := 216) b dX9_call_151 (by decide) (by omega) (fun hk4 => ?_) (fun hk4 => ?_)
            · refine w_aload_n b dX9_call_216 rfl rfl ?_
              refine w_iload b dX9_call_217 rfl ?_
              refine w_aload_n b dX9_call_219 rfl rfl ?_
              refine m_get b dX9_call_220 lfX9_41 rfl ?_
              refine w_iload b dX9_call_223 rfl ?_
              refine m_ald (v := base) b dX9_call_225 rfl (by omega) hU ?_
              refine w_aload_n b dX9_call_226 rfl rfl ?_
              refine m_get b dX9_call_227 lfX9_44 rfl ?_
              refine w_iload b dX9_call_230 rfl ?_
              refine m_ald (v := wide) b dX9_call_232 rfl (by omega) hV ?_
              have hkk : F 4 (12 * c + s) = 0 ∨ F 4 (12 * c + s) = 1 ∨ F 4 (12 * c + s) = 2 ∨ F 4 (12 * c + s) = 3 ∨ F 4 (12 * c + s) = 5 := by omega
              by_cases hfit : a + amF (F 4 (12 * c + s)) (F 5 (12 * c + s)) (a - base) wide ≤ 1000
              · refine ww_cast (σ' := (mp mo h0 (va_up I 13 a) (va_up (cS F f e S (fu T k (s + 1)) U V) 7 f), nx)) rfl rfl (by rw [cS_7]) ?_
                refine c_V3 b dX9_call_233 lmX9_162 (mp_obj _ _ _ _) (k_stepOf1 (I := I) (F := cS F f e S (fu T k (s + 1)) U V) (f := f) (by omega) hkk ⟨w2, w3⟩ (by omega) (by omega) (by omega) h21 h1_ hfit) (tle rfl) (by omega) (by omega) (by omega) ?_
                refine ww_cast (σ' := (mp mo h0 (va_up I 13 (a + amF (F 4 (12 * c + s)) (F 5 (12 * c + s)) (a - base) wide)) (cS F (exF (vaF (F 4 (12 * c + s)) (F 6 (12 * c + s)) (blF I F (F 5 (12 * c + s))) base a f) a (amF (F 4 (12 * c + s)) (F 5 (12 * c + s)) (a - base) wide) f) (e) (S) (fu T k (s + 1)) (U) (V)), nx)) rfl rfl (by rw [cS_7]; rfl) ?_
                have hnn : 0 ≤ amF (F 4 (12 * c + s)) (F 5 (12 * c + s)) (a - base) wide := amF_nn (fun z => by omega) (by omega)
                have hc72 : col7 (exF (vaF (F 4 (12 * c + s)) (F 6 (12 * c + s)) (blF I F (F 5 (12 * c + s))) base a f) a (amF (F 4 (12 * c + s)) (F 5 (12 * c + s)) (a - base) wide) f) := exF_c7 w1 hk4 w3 w5 (by omega) (by omega) h21 h1_ h23 hc7
                have e1 : sgS I F (sg I F 0) (12 * c + s) base wide (a, f, bg) = some (a + amF (F 4 (12 * c + s)) (F 5 (12 * c + s)) (a - base) wide, exF (vaF (F 4 (12 * c + s)) (F 6 (12 * c + s)) (blF I F (F 5 (12 * c + s))) base a f) a (amF (F 4 (12 * c + s)) (F 5 (12 * c + s)) (a - base) wide) f, bg + 1) := by
                  unfold sgS
                  rw [if_neg (by show ¬ 1000 < bg + 1; omega), if_neg hk4, if_pos hfit]
                have e2 : sgL I F (sg I F 0) c base wide (n + 1) s (a, f, bg) = sgL I F (sg I F 0) c base wide n (s + 1) (a + amF (F 4 (12 * c + s)) (F 5 (12 * c + s)) (a - base) wide, exF (vaF (F 4 (12 * c + s)) (F 6 (12 * c + s)) (blF I F (F 5 (12 * c + s))) base a f) a (amF (F 4 (12 * c + s)) (F 5 (12 * c + s)) (a - base) wide) f, bg + 1) := by
                  conv => lhs; unfold sgL
                  rw [e1]
                have e3 : edL I F (sg I F 0) c base wide (n + 1) s (a, f, bg) e = edL I F (sg I F 0) c base wide n (s + 1) (a + amF (F 4 (12 * c + s)) (F 5 (12 * c + s)) (a - base) wide, exF (vaF (F 4 (12 * c + s)) (F 6 (12 * c + s)) (blF I F (F 5 (12 * c + s))) base a f) a (amF (F 4 (12 * c + s)) (F 5 (12 * c + s)) (a - base) wide) f, bg + 1) (fu e s (a + amF (F 4 (12 * c + s)) (F 5 (12 * c + s)) (a - base) wide, exF (vaF (F 4 (12 * c + s)) (F 6 (12 * c + s)) (blF I F (F 5 (12 * c + s))) base a f) a (amF (F 4 (12 * c + s)) (F 5 (12 * c + s)) (a - base) wide) f, bg + 1).1) := by
                  conv => lhs; unfold edL
                  rw [e1]
                rw [e2, e3] at ko
                refine z_if_ne (tgt := 242) b dX9_call_236 (by decide) (by omega) (fun c236 => ?_) (fun c236 => ?_)
                · refine w_iload b dX9_call_242 rfl ?_
                  refine z_if_ne (tgt := 264) b dX9_call_244 (by decide) (by omega) (fun c244 => ?_) (fun c244 => ?_)
                  · refine w_goto (tgt := 40) b dX9_call_264 (by decide) ?_
                    refine ww_forget 4 ?_
                    refine ww_forget 5 ?_
                    exact ih (s + 1) c k wide base (a + amF (F 4 (12 * c + s)) (F 5 (12 * c + s)) (a - base) wide) (bg + 1) (exF (vaF (F 4 (12 * c + s)) (F 6 (12 * c + s)) (blF I F (F 5 (12 * c + s))) base a f) a (amF (F 4 (12 * c + s)) (F 5 (12 * c + s)) (a - base) wide) f) e S (fu T k (s + 1)) U V hcd hc hk (by omega) (by omega) hS (fu_s _ _ _) hU hV (by omega) hw (by omega) hc72 (fun z => kw (e2.trans z)) (fun t' S' T' U' V' g1 g2 g3 g4 g5 => by
                      have q := ko t' S' T' U' V' g1 (by omega) g3 g4 (fun j j1 j2 => ⟨(g5 j j1 j2).1, by rw [(g5 j j1 j2).2.1, fu_n (by omega)], (g5 j j1 j2).2.2.1, (g5 j j1 j2).2.2.2⟩)
                      rw [if_neg c244] at q ⊢
                      exact q)
                  · refine w_aload_n b dX9_call_247 rfl rfl ?_
                    refine m_get b dX9_call_248 lfX9_32 rfl ?_
                    refine w_aload_n b dX9_call_251 rfl rfl ?_
                    refine m_get b dX9_call_252 lfX9_38 rfl ?_
                    refine z_iconst b dX9_call_255 ?_
                    refine m_ald (v := s + 1) b dX9_call_256 rfl (by omega) (by show fu T k (s + 1) 0 = s + 1; rw [c244, fu_s]) ?_
                    refine z_iconst b dX9_call_257 ?_
                    refine z_isub b dX9_call_258 ?_
                    refine w_aload_n b dX9_call_259 rfl rfl ?_
                    refine m_get (v := .int (iI (a + amF (F 4 (12 * c + s)) (F 5 (12 * c + s)) (a - base) wide))) b dX9_call_260 lfX9_47 rfl ?_
                    refine m_ast b dX9_call_263 rfl (by omega) ?_
                    refine ww_cast (L' := [some (.ref mo), some (.int (iI c0)), some (.int (iI (bg + 1))), some (.int (iI (k + 1))), some (.int (iI (k))), some (.int (iI (12 * c + s)))]) (σ' := (mp mo h0 (va_up I 13 (a + amF (F 4 (12 * c + s)) (F 5 (12 * c + s)) (a - base) wide)) (cS F (exF (vaF (F 4 (12 * c + s)) (F 6 (12 * c + s)) (blF I F (F 5 (12 * c + s))) base a f) a (amF (F 4 (12 * c + s)) (F 5 (12 * c + s)) (a - base) wide) f) (fu e s (a + amF (F 4 (12 * c + s)) (F 5 (12 * c + s)) (a - base) wide)) (S) (fu T k (s + 1)) (U) (V)), nx)) rfl rfl (by rw [cS_8, show s + 1 - 1 = s by omega]; rfl) ?_
                    refine w_goto (tgt := 40) b dX9_call_264 (by decide) ?_
                    refine ww_forget 4 ?_
                    refine ww_forget 5 ?_
                    exact ih (s + 1) c k wide base (a + amF (F 4 (12 * c + s)) (F 5 (12 * c + s)) (a - base) wide) (bg + 1) (exF (vaF (F 4 (12 * c + s)) (F 6 (12 * c + s)) (blF I F (F 5 (12 * c + s))) base a f) a (amF (F 4 (12 * c + s)) (F 5 (12 * c + s)) (a - base) wide) f) (fu e s (a + amF (F 4 (12 * c + s)) (F 5 (12 * c + s)) (a - base) wide)) S (fu T k (s + 1)) U V hcd hc hk (by omega) (by omega) hS (fu_s _ _ _) hU hV (by omega) hw (by omega) hc72 (fun z => kw (e2.trans z)) (fun t' S' T' U' V' g1 g2 g3 g4 g5 => by
                      have q := ko t' S' T' U' V' g1 (by omega) g3 g4 (fun j j1 j2 => ⟨(g5 j j1 j2).1, by rw [(g5 j j1 j2).2.1, fu_n (by omega)], (g5 j j1 j2).2.2.1, (g5 j j1 j2).2.2.2⟩)
                      rw [if_pos c244] at q ⊢
                      exact q)
                · exfalso; omega
              · refine ww_cast (σ' := (mp mo h0 (va_up I 13 a) (va_up (cS F f e S (fu T k (s + 1)) U V) 7 f), nx)) rfl rfl (by rw [cS_7]) ?_
                refine w_callV (vs := [_, _, _]) b dX9_call_233 lmX9_162 rfl rfl (mp_obj _ _ _ _) (tle rfl) (by omega) (by omega) (by omega) (k_stepOf0 (I := I) (F := cS F f e S (fu T k (s + 1)) U V) (f := f) (by omega) hkk ⟨w2, w3⟩ (by omega) (by omega) (by omega) h21 h1_ w5 h23 hc7 hfit) (fun r9 σ9 hq9 => ?_)
                obtain ⟨rfl, f9, hc9, rfl⟩ := hq9
                refine ww_cast (σ' := (mp mo h0 (va_up I 13 (1000)) (cS F (f9) (e) (S) (fu T k (s + 1)) (U) (V)), nx)) rfl rfl (by rw [cS_7]) ?_
                change WW X g mX9_call.2.2.1 (ZQ X g Q 0 0) 0 0 236 [some (.ref mo), some (.int (iI c0)), some (.int (iI (bg + 1))), some (.int (iI (k + 1))), some (.int (iI (k))), some (.int (iI (12 * c + s)))] [.int (iI 0)] _
                refine z_if_ne (tgt := 242) b dX9_call_236 (by decide) (by omega) (fun c236 => ?_) (fun c236 => ?_)
                · exfalso; omega
                · refine z_bipush b dX9_call_239 (by decide) ?_
                  exact w_iret b dX9_call_241 rfl (by omega) (by omega) (kw (sgL_none (by unfold sgS; rw [if_neg (show ¬ 1000 < bg + 1 by omega), if_neg hk4, if_neg hfit])) _ _ _ _ _ _ _ (by omega) hc9)
            · exfalso
              have := w4 hk4
              omega
          · refine z_bipush b dX9_call_140 (by decide) ?_
            exact w_iret b dX9_call_142 rfl (by omega) (by omega) (kw (sgL_none (by unfold sgS; rw [if_pos (show 1000 < bg + 1 by omega)])) _ _ _ _ _ _ _ (by omega) hc7)
        · exfalso; omega
  | succ d ihd =>
    intro n
    induction n with
    | zero =>
      intro s c k wide base a bg f e S T U V hcd hc hk hsn hs hS hT hU hV hb hw hbg hc7 kw ko
      have hst := (wf c hc.1 hc.2).1
      have ko := ko (a, f, bg) S T U V rfl (by show 0 ≤ a ∧ a ≤ a ∧ a ≤ 1000; omega) hbg hc7 (fun j _ _ => ⟨rfl, rfl, rfl, rfl⟩)
      have ee : (if k = 0 then edL I F (sg I F (d + 1)) c base wide 0 s (a, f, bg) e else e) = e := by split <;> rfl
      rw [ee] at ko
      refine w_iload_n b dX9_call_40 rfl ?_
      refine z_if_le (tgt := 267) b dX9_call_41 (by decide) (by omega) (fun c41 => ?_) (fun c41 => ?_)
      · exfalso; omega
      · refine w_iload_n b dX9_call_44 rfl ?_
        refine z_iconst b dX9_call_45 ?_
        refine z_isub b dX9_call_46 ?_
        refine w_istore b dX9_call_47 (tlt rfl) rfl ?_
        refine ww_cast (L' := [some (.ref mo), some (.int (iI c0)), some (.int (iI (bg))), some (.int (iI (k + 1))), some (.int (iI (k))), none]) (by rw [show k + 1 - 1 = k by omega]; rfl) rfl rfl ?_
        refine w_aload_n b dX9_call_49 rfl rfl ?_
        refine m_get b dX9_call_50 lfX9_38 rfl ?_
        refine w_iload b dX9_call_53 rfl ?_
        refine m_ald (v := s) b dX9_call_55 rfl (by omega) hT ?_
        refine w_aload_n b dX9_call_56 rfl rfl ?_
        refine m_get b dX9_call_57 lfX9_16 rfl ?_
        refine w_aload_n b dX9_call_60 rfl rfl ?_
        refine m_get b dX9_call_61 lfX9_35 rfl ?_
        refine w_iload b dX9_call_64 rfl ?_
        refine m_ald (v := c) b dX9_call_66 rfl (by omega) hS ?_
        refine m_ald (v := F 3 c) b dX9_call_67 rfl (by omega) rfl ?_
        refine z_icmp_ne (tgt := 99) b dX9_call_68 (by decide) (by omega) (fun c68 => ?_) (fun c68 => ?_)
        · exfalso; omega
        · exact ko
    | succ n ih =>
      intro s c k wide base a bg f e S T U V hcd hc hk hsn hs hS hT hU hV hb hw hbg hc7 kw ko
      obtain ⟨hst, hwf⟩ := wf c hc.1 hc.2
      obtain ⟨w1, w2, w3, w4, w5⟩ := hwf s hs (by omega)
      refine w_iload_n b dX9_call_40 rfl ?_
      refine z_if_le (tgt := 267) b dX9_call_41 (by decide) (by omega) (fun c41 => ?_) (fun c41 => ?_)
      · exfalso; omega
      · refine w_iload_n b dX9_call_44 rfl ?_
        refine z_iconst b dX9_call_45 ?_
        refine z_isub b dX9_call_46 ?_
        refine w_istore b dX9_call_47 (tlt rfl) rfl ?_
        refine ww_cast (L' := [some (.ref mo), some (.int (iI c0)), some (.int (iI (bg))), some (.int (iI (k + 1))), some (.int (iI (k))), none]) (by rw [show k + 1 - 1 = k by omega]; rfl) rfl rfl ?_
        refine w_aload_n b dX9_call_49 rfl rfl ?_
        refine m_get b dX9_call_50 lfX9_38 rfl ?_
        refine w_iload b dX9_call_53 rfl ?_
        refine m_ald (v := s) b dX9_call_55 rfl (by omega) hT ?_
        refine w_aload_n b dX9_call_56 rfl rfl ?_
        refine m_get b dX9_call_57 lfX9_16 rfl ?_
        refine w_aload_n b dX9_call_60 rfl rfl ?_
        refine m_get b dX9_call_61 lfX9_35 rfl ?_
        refine w_iload b dX9_call_64 rfl ?_
        refine m_ald (v := c) b dX9_call_66 rfl (by omega) hS ?_
        refine m_ald (v := F 3 c) b dX9_call_67 rfl (by omega) rfl ?_
        refine z_icmp_ne (tgt := 99) b dX9_call_68 (by decide) (by omega) (fun c68 => ?_) (fun c68 => ?_)
        · refine z_bipush b dX9_call_99 (by decide) ?_
          refine w_aload_n b dX9_call_101 rfl rfl ?_
          refine m_get b dX9_call_102 lfX9_35 rfl ?_
          refine w_iload b dX9_call_105 rfl ?_
          refine m_ald (v := c) b dX9_call_107 rfl (by omega) hS ?_
          refine z_imul b dX9_call_108 ?_
          refine w_aload_n b dX9_call_109 rfl rfl ?_
          refine m_get b dX9_call_110 lfX9_38 rfl ?_
          refine w_iload b dX9_call_113 rfl ?_
          refine m_ald (v := s) b dX9_call_115 rfl (by omega) hT ?_
          refine z_iadd b dX9_call_116 ?_
          refine w_istore b dX9_call_117 (tlt rfl) rfl ?_
          refine w_aload_n b dX9_call_119 rfl rfl ?_
          refine m_get b dX9_call_120 lfX9_38 rfl ?_
          refine w_iload b dX9_call_123 rfl ?_
          refine w_dup2 b dX9_call_125 rfl rfl ?_
          refine m_ald (v := s) b dX9_call_126 rfl (by omega) hT ?_
          refine z_iconst b dX9_call_127 ?_
          refine z_iadd b dX9_call_128 ?_
          refine m_ast b dX9_call_129 rfl (by omega) ?_
          refine ww_cast (σ' := (mp mo h0 (va_up I 13 (a)) (cS F (f) (e) (S) (fu T k (s + 1)) (U) (V)), nx)) rfl rfl (by rw [cS_10]; rfl) ?_
          refine z_iinc b dX9_call_130 rfl rfl rfl ?_
          refine w_iload_n b dX9_call_133 rfl ?_
          refine z_sipush b dX9_call_134 (by decide) ?_
          refine z_icmp_le (tgt := 143) b dX9_call_137 (by decide) (by omega) (fun c137 => ?_) (fun c137 => ?_)
          · refine w_aload_n b dX9_call_143 rfl rfl ?_
            refine m_get b dX9_call_144 lfX9_20 rfl ?_
            refine w_iload b dX9_call_147 rfl ?_
            refine m_ald (v := F 4 (12 * c + s)) b dX9_call_149 rfl (by omega) rfl ?_
            refine z_iconst b dX9_call_150 ?_
            refine z_icmp_ne (tgt := 216) b dX9_call_151 (by decide) (by omega) (fun hk4 => ?_) (fun hk4 => ?_)
            · refine w_aload_n b dX9_call_216 rfl rfl ?_
              refine w_iload b dX9_call_217 rfl ?_
              refine w_aload_n b dX9_call_219 rfl rfl ?_
              refine m_get b dX9_call_220 lfX9_41 rfl ?_
              refine w_iload b dX9_call_223 rfl ?_
              refine m_ald (v := base) b dX9_call_225 rfl (by omega) hU ?_
              refine w_aload_n b dX9_call_226 rfl rfl ?_
              refine m_get b dX9_call_227 lfX9_44 rfl ?_
              refine w_iload b dX9_call_230 rfl ?_
              refine m_ald (v := wide) b dX9_call_232 rfl (by omega) hV ?_
              have hkk : F 4 (12 * c + s) = 0 ∨ F 4 (12 * c + s) = 1 ∨ F 4 (12 * c + s) = 2 ∨ F 4 (12 * c + s) = 3 ∨ F 4 (12 * c + s) = 5 := by omega
              by_cases hfit : a + amF (F 4 (12 * c + s)) (F 5 (12 * c + s)) (a - base) wide ≤ 1000
              · refine ww_cast (σ' := (mp mo h0 (va_up I 13 a) (va_up (cS F f e S (fu T k (s + 1)) U V) 7 f), nx)) rfl rfl (by rw [cS_7]) ?_
                refine c_V3 b dX9_call_233 lmX9_162 (mp_obj _ _ _ _) (k_stepOf1 (I := I) (F := cS F f e S (fu T k (s + 1)) U V) (f := f) (by omega) hkk ⟨w2, w3⟩ (by omega) (by omega) (by omega) h21 h1_ hfit) (tle rfl) (by omega) (by omega) (by omega) ?_
                refine ww_cast (σ' := (mp mo h0 (va_up I 13 (a + amF (F 4 (12 * c + s)) (F 5 (12 * c + s)) (a - base) wide)) (cS F (exF (vaF (F 4 (12 * c + s)) (F 6 (12 * c + s)) (blF I F (F 5 (12 * c + s))) base a f) a (amF (F 4 (12 * c + s)) (F 5 (12 * c + s)) (a - base) wide) f) (e) (S) (fu T k (s + 1)) (U) (V)), nx)) rfl rfl (by rw [cS_7]; rfl) ?_
                have hnn : 0 ≤ amF (F 4 (12 * c + s)) (F 5 (12 * c + s)) (a - base) wide := amF_nn (fun z => by omega) (by omega)
                have hc72 : col7 (exF (vaF (F 4 (12 * c + s)) (F 6 (12 * c + s)) (blF I F (F 5 (12 * c + s))) base a f) a (amF (F 4 (12 * c + s)) (F 5 (12 * c + s)) (a - base) wide) f) := exF_c7 w1 hk4 w3 w5 (by omega) (by omega) h21 h1_ h23 hc7
                have e1 : sgS I F (sg I F (d + 1)) (12 * c + s) base wide (a, f, bg) = some (a + amF (F 4 (12 * c + s)) (F 5 (12 * c + s)) (a - base) wide, exF (vaF (F 4 (12 * c + s)) (F 6 (12 * c + s)) (blF I F (F 5 (12 * c + s))) base a f) a (amF (F 4 (12 * c + s)) (F 5 (12 * c + s)) (a - base) wide) f, bg + 1) := by
                  unfold sgS
                  rw [if_neg (by show ¬ 1000 < bg + 1; omega), if_neg hk4, if_pos hfit]
                have e2 : sgL I F (sg I F (d + 1)) c base wide (n + 1) s (a, f, bg) = sgL I F (sg I F (d + 1)) c base wide n (s + 1) (a + amF (F 4 (12 * c + s)) (F 5 (12 * c + s)) (a - base) wide, exF (vaF (F 4 (12 * c + s)) (F 6 (12 * c + s)) (blF I F (F 5 (12 * c + s))) base a f) a (amF (F 4 (12 * c + s)) (F 5 (12 * c + s)) (a - base) wide) f, bg + 1) := by
                  conv => lhs; unfold sgL
                  rw [e1]
                have e3 : edL I F (sg I F (d + 1)) c base wide (n + 1) s (a, f, bg) e = edL I F (sg I F (d + 1)) c base wide n (s + 1) (a + amF (F 4 (12 * c + s)) (F 5 (12 * c + s)) (a - base) wide, exF (vaF (F 4 (12 * c + s)) (F 6 (12 * c + s)) (blF I F (F 5 (12 * c + s))) base a f) a (amF (F 4 (12 * c + s)) (F 5 (12 * c + s)) (a - base) wide) f, bg + 1) (fu e s (a + amF (F 4 (12 * c + s)) (F 5 (12 * c + s)) (a - base) wide, exF (vaF (F 4 (12 * c + s)) (F 6 (12 * c + s)) (blF I F (F 5 (12 * c + s))) base a f) a (amF (F 4 (12 * c + s)) (F 5 (12 * c + s)) (a - base) wide) f, bg + 1).1) := by
                  conv => lhs; unfold edL
                  rw [e1]
                rw [e2, e3] at ko
                refine z_if_ne (tgt := 242) b dX9_call_236 (by decide) (by omega) (fun c236 => ?_) (fun c236 => ?_)
                · refine w_iload b dX9_call_242 rfl ?_
                  refine z_if_ne (tgt := 264) b dX9_call_244 (by decide) (by omega) (fun c244 => ?_) (fun c244 => ?_)
                  · refine w_goto (tgt := 40) b dX9_call_264 (by decide) ?_
                    refine ww_forget 4 ?_
                    refine ww_forget 5 ?_
                    exact ih (s + 1) c k wide base (a + amF (F 4 (12 * c + s)) (F 5 (12 * c + s)) (a - base) wide) (bg + 1) (exF (vaF (F 4 (12 * c + s)) (F 6 (12 * c + s)) (blF I F (F 5 (12 * c + s))) base a f) a (amF (F 4 (12 * c + s)) (F 5 (12 * c + s)) (a - base) wide) f) e S (fu T k (s + 1)) U V hcd hc hk (by omega) (by omega) hS (fu_s _ _ _) hU hV (by omega) hw (by omega) hc72 (fun z => kw (e2.trans z)) (fun t' S' T' U' V' g1 g2 g3 g4 g5 => by
                      have q := ko t' S' T' U' V' g1 (by omega) g3 g4 (fun j j1 j2 => ⟨(g5 j j1 j2).1, by rw [(g5 j j1 j2).2.1, fu_n (by omega)], (g5 j j1 j2).2.2.1, (g5 j j1 j2).2.2.2⟩)
                      rw [if_neg c244] at q ⊢
                      exact q)
                  · refine w_aload_n b dX9_call_247 rfl rfl ?_
                    refine m_get b dX9_call_248 lfX9_32 rfl ?_
                    refine w_aload_n b dX9_call_251 rfl rfl ?_
                    refine m_get b dX9_call_252 lfX9_38 rfl ?_
                    refine z_iconst b dX9_call_255 ?_
                    refine m_ald (v := s + 1) b dX9_call_256 rfl (by omega) (by show fu T k (s + 1) 0 = s + 1; rw [c244, fu_s]) ?_
                    refine z_iconst b dX9_call_257 ?_
                    refine z_isub b dX9_call_258 ?_
                    refine w_aload_n b dX9_call_259 rfl rfl ?_
                    refine m_get (v := .int (iI (a + amF (F 4 (12 * c + s)) (F 5 (12 * c + s)) (a - base) wide))) b dX9_call_260 lfX9_47 rfl ?_
                    refine m_ast b dX9_call_263 rfl (by omega) ?_
                    refine ww_cast (L' := [some (.ref mo), some (.int (iI c0)), some (.int (iI (bg + 1))), some (.int (iI (k + 1))), some (.int (iI (k))), some (.int (iI (12 * c + s)))]) (σ' := (mp mo h0 (va_up I 13 (a + amF (F 4 (12 * c + s)) (F 5 (12 * c + s)) (a - base) wide)) (cS F (exF (vaF (F 4 (12 * c + s)) (F 6 (12 * c + s)) (blF I F (F 5 (12 * c + s))) base a f) a (amF (F 4 (12 * c + s)) (F 5 (12 * c + s)) (a - base) wide) f) (fu e s (a + amF (F 4 (12 * c + s)) (F 5 (12 * c + s)) (a - base) wide)) (S) (fu T k (s + 1)) (U) (V)), nx)) rfl rfl (by rw [cS_8, show s + 1 - 1 = s by omega]; rfl) ?_
                    refine w_goto (tgt := 40) b dX9_call_264 (by decide) ?_
                    refine ww_forget 4 ?_
                    refine ww_forget 5 ?_
                    exact ih (s + 1) c k wide base (a + amF (F 4 (12 * c + s)) (F 5 (12 * c + s)) (a - base) wide) (bg + 1) (exF (vaF (F 4 (12 * c + s)) (F 6 (12 * c + s)) (blF I F (F 5 (12 * c + s))) base a f) a (amF (F 4 (12 * c + s)) (F 5 (12 * c + s)) (a - base) wide) f) (fu e s (a + amF (F 4 (12 * c + s)) (F 5 (12 * c + s)) (a - base) wide)) S (fu T k (s + 1)) U V hcd hc hk (by omega) (by omega) hS (fu_s _ _ _) hU hV (by omega) hw (by omega) hc72 (fun z => kw (e2.trans z)) (fun t' S' T' U' V' g1 g2 g3 g4 g5 => by
                      have q := ko t' S' T' U' V' g1 (by omega) g3 g4 (fun j j1 j2 => ⟨(g5 j j1 j2).1, by rw [(g5 j j1 j2).2.1, fu_n (by omega)], (g5 j j1 j2).2.2.1, (g5 j j1 j2).2.2.2⟩)
                      rw [if_pos c244] at q ⊢
                      exact q)
                · exfalso; omega
              · refine ww_cast (σ' := (mp mo h0 (va_up I 13 a) (va_up (cS F f e S (fu T k (s + 1)) U V) 7 f), nx)) rfl rfl (by rw [cS_7]) ?_
                refine w_callV (vs := [_, _, _]) b dX9_call_233 lmX9_162 rfl rfl (mp_obj _ _ _ _) (tle rfl) (by omega) (by omega) (by omega) (k_stepOf0 (I := I) (F := cS F f e S (fu T k (s + 1)) U V) (f := f) (by omega) hkk ⟨w2, w3⟩ (by omega) (by omega) (by omega) h21 h1_ w5 h23 hc7 hfit) (fun r9 σ9 hq9 => ?_)
                obtain ⟨rfl, f9, hc9, rfl⟩ := hq9
                refine ww_cast (σ' := (mp mo h0 (va_up I 13 (1000)) (cS F (f9) (e) (S) (fu T k (s + 1)) (U) (V)), nx)) rfl rfl (by rw [cS_7]) ?_
                change WW X g mX9_call.2.2.1 (ZQ X g Q 0 0) 0 0 236 [some (.ref mo), some (.int (iI c0)), some (.int (iI (bg + 1))), some (.int (iI (k + 1))), some (.int (iI (k))), some (.int (iI (12 * c + s)))] [.int (iI 0)] _
                refine z_if_ne (tgt := 242) b dX9_call_236 (by decide) (by omega) (fun c236 => ?_) (fun c236 => ?_)
                · exfalso; omega
                · refine z_bipush b dX9_call_239 (by decide) ?_
                  exact w_iret b dX9_call_241 rfl (by omega) (by omega) (kw (sgL_none (by unfold sgS; rw [if_neg (show ¬ 1000 < bg + 1 by omega), if_neg hk4, if_neg hfit])) _ _ _ _ _ _ _ (by omega) hc9)
            · refine w_aload_n b dX9_call_154 rfl rfl ?_
              refine m_get b dX9_call_155 lfX9_35 rfl ?_
              refine w_iload_n b dX9_call_158 rfl ?_
              refine w_aload_n b dX9_call_159 rfl rfl ?_
              refine m_get b dX9_call_160 lfX9_23 rfl ?_
              refine w_iload b dX9_call_163 rfl ?_
              refine m_ald (v := F 5 (12 * c + s)) b dX9_call_165 rfl (by omega) rfl ?_
              refine m_ast b dX9_call_166 rfl (by omega) ?_
              refine ww_cast (σ' := (mp mo h0 (va_up I 13 (a)) (cS F (f) (e) (fu S (k + 1) (F 5 (12 * c + s))) (fu T k (s + 1)) (U) (V)), nx)) rfl rfl (by rw [cS_9]; rfl) ?_
              refine w_aload_n b dX9_call_167 rfl rfl ?_
              refine m_get b dX9_call_168 lfX9_38 rfl ?_
              refine w_iload_n b dX9_call_171 rfl ?_
              refine z_iconst b dX9_call_172 ?_
              refine m_ast b dX9_call_173 rfl (by omega) ?_
              refine ww_cast (σ' := (mp mo h0 (va_up I 13 (a)) (cS F (f) (e) (fu S (k + 1) (F 5 (12 * c + s))) (fu (fu T k (s + 1)) (k + 1) 0) (U) (V)), nx)) rfl rfl (by rw [cS_10]; rfl) ?_
              refine w_aload_n b dX9_call_174 rfl rfl ?_
              refine m_get b dX9_call_175 lfX9_41 rfl ?_
              refine w_iload_n b dX9_call_178 rfl ?_
              refine w_aload_n b dX9_call_179 rfl rfl ?_
              refine m_get (v := .int (iI a)) b dX9_call_180 lfX9_47 rfl ?_
              refine m_ast b dX9_call_183 rfl (by omega) ?_
              refine ww_cast (σ' := (mp mo h0 (va_up I 13 (a)) (cS F (f) (e) (fu S (k + 1) (F 5 (12 * c + s))) (fu (fu T k (s + 1)) (k + 1) 0) (fu U (k + 1) a) (V)), nx)) rfl rfl (by rw [cS_11]; rfl) ?_
              refine w_aload_n b dX9_call_184 rfl rfl ?_
              refine m_get b dX9_call_185 lfX9_44 rfl ?_
              refine w_iload_n b dX9_call_188 rfl ?_
              refine w_aload_n b dX9_call_189 rfl rfl ?_
              refine m_get b dX9_call_190 lfX9_44 rfl ?_
              refine w_iload b dX9_call_193 rfl ?_
              refine m_ald (v := wide) b dX9_call_195 rfl (by omega) hV ?_
              refine w_aload_n b dX9_call_196 rfl rfl ?_
              refine m_get (v := .int (iI a)) b dX9_call_197 lfX9_47 rfl ?_
              refine w_aload_n b dX9_call_200 rfl rfl ?_
              refine m_get b dX9_call_201 lfX9_41 rfl ?_
              refine w_iload b dX9_call_204 rfl ?_
              refine m_ald (v := base) b dX9_call_206 rfl (by omega) (by show fu U (k + 1) a k = base; rw [fu_n (by omega)]; exact hU) ?_
              refine z_isub b dX9_call_207 ?_
              refine z_isub b dX9_call_208 ?_
              refine m_ast b dX9_call_209 rfl (by omega) ?_
              refine ww_cast (σ' := (mp mo h0 (va_up I 13 (a)) (cS F (f) (e) (fu S (k + 1) (F 5 (12 * c + s))) (fu (fu T k (s + 1)) (k + 1) 0) (fu U (k + 1) a) (fu V (k + 1) (wide - (a - base)))), nx)) rfl rfl (by rw [cS_12]; rfl) ?_
              refine z_iinc b dX9_call_210 rfl rfl rfl ?_
              refine w_goto (tgt := 40) b dX9_call_213 (by decide) ?_
              refine ww_forget 4 ?_
              refine ww_forget 5 ?_
              have hn4 := w4 hk4
              have hst4 := (wf (F 5 (12 * c + s)) (by omega) (by omega)).1
              refine ihd (F 3 (F 5 (12 * c + s))).toNat 0 (F 5 (12 * c + s)) (k + 1) (wide - (a - base)) a a (bg + 1) f e (fu S (k + 1) (F 5 (12 * c + s))) (fu (fu T k (s + 1)) (k + 1) 0) (fu U (k + 1) a) (fu V (k + 1) (wide - (a - base))) (by omega) (by omega) (by omega) (by omega) (by omega) (fu_s _ _ _) (fu_s _ _ _) (fu_s _ _ _) (fu_s _ _ _) (by omega) (by omega) (by omega) hc7 (fun z => kw (sgL_none (by unfold sgS; rw [if_neg (show ¬ 1000 < bg + 1 by omega), if_pos hk4]; exact z))) (fun t1 S1 T1 U1 V1 g1 g2 g3 g4 g5 => ?_)
              rw [if_neg (by omega)]
              have e0 : sg I F (d + 1) (F 5 (12 * c + s)) (wide - (a - base)) (a, f, bg + 1) = some t1 := g1
              obtain ⟨a1, f1, b1⟩ := t1
              change (0 ≤ a1 ∧ a ≤ a1 ∧ a1 ≤ 1000) at g2
              change (0 ≤ b1 ∧ b1 ≤ 1000) at g3
              change col7 f1 at g4
              change WW X g mX9_call.2.2.1 (ZQ X g Q 0 0) 0 0 71 [some (.ref mo), some (.int (iI c0)), some (.int (iI (b1))), some (.int (iI (k + 1 + 1))), some (.int (iI (k + 1))), none] [] (mp mo h0 (va_up I 13 (a1)) (cS F (f1) (e) (S1) (T1) (U1) (V1)), nx)
              have gk := g5 k (by omega) (by omega)
              have gT : T1 k = s + 1 := by rw [gk.2.1, fu_n (by omega), fu_s]
              have e1 : sgS I F (sg I F (d + 1)) (12 * c + s) base wide (a, f, bg) = some (a1, f1, b1) := by
                unfold sgS
                rw [if_neg (by show ¬ 1000 < bg + 1; omega), if_pos hk4]; exact e0
              have e2 : sgL I F (sg I F (d + 1)) c base wide (n + 1) s (a, f, bg) = sgL I F (sg I F (d + 1)) c base wide n (s + 1) (a1, f1, b1) := by
                conv => lhs; unfold sgL
                rw [e1]
              have e3 : edL I F (sg I F (d + 1)) c base wide (n + 1) s (a, f, bg) e = edL I F (sg I F (d + 1)) c base wide n (s + 1) (a1, f1, b1) (fu e s (a1, f1, b1).1) := by
                conv => lhs; unfold edL
                rw [e1]
              rw [e2, e3] at ko
              refine z_iinc b dX9_call_71 rfl rfl (v := k + 1) (by omega) ?_
              refine w_iload_n b dX9_call_74 rfl ?_
              refine z_iconst b dX9_call_75 ?_
              refine z_icmp_ne (tgt := 40) b dX9_call_76 (by decide) (by omega) (fun c76 => ?_) (fun c76 => ?_)
              · refine ww_forget 4 ?_
                exact ih (s + 1) c k wide base a1 b1 f1 e S1 T1 U1 V1 hcd hc hk (by omega) (by omega) (by rw [gk.1, fu_n (by omega)]; exact hS) gT (by rw [gk.2.2.1, fu_n (by omega)]; exact hU) (by rw [gk.2.2.2, fu_n (by omega)]; exact hV) (by omega) hw (by omega) g4 (fun z => kw (e2.trans z)) (fun t' S' T' U' V' i1 i2 i3 i4 i5 => by
                  have q := ko t' S' T' U' V' i1 (by omega) i3 i4 (fun j j1 j2 => by
                    have q1 := i5 j j1 j2
                    have q2 := g5 j j1 (by omega)
                    rw [fu_n (by omega)] at q2
                    refine ⟨q1.1.trans q2.1, ?_, ?_, ?_⟩
                    · rw [q1.2.1, q2.2.1, fu_n (by omega), fu_n (by omega)]
                    · rw [q1.2.2.1, q2.2.2.1, fu_n (by omega)]
                    · rw [q1.2.2.2, q2.2.2.2, fu_n (by omega)])
                  rw [if_neg (show ¬ k = 0 by omega)] at q ⊢
                  exact q)
              · refine w_aload_n b dX9_call_79 rfl rfl ?_
                refine m_get b dX9_call_80 lfX9_32 rfl ?_
                refine w_aload_n b dX9_call_83 rfl rfl ?_
                refine m_get b dX9_call_84 lfX9_38 rfl ?_
                refine z_iconst b dX9_call_87 ?_
                refine m_ald (v := s + 1) b dX9_call_88 rfl (by omega) (by show T1 0 = s + 1; rw [show (0 : Int) = k by omega]; exact gT) ?_
                refine z_iconst b dX9_call_89 ?_
                refine z_isub b dX9_call_90 ?_
                refine w_aload_n b dX9_call_91 rfl rfl ?_
                refine m_get (v := .int (iI a1)) b dX9_call_92 lfX9_47 rfl ?_
                refine m_ast b dX9_call_95 rfl (by omega) ?_
                refine ww_cast (σ' := (mp mo h0 (va_up I 13 (a1)) (cS F (f1) (fu e s a1) (S1) (T1) (U1) (V1)), nx)) rfl rfl (by rw [cS_8, show s + 1 - 1 = s by omega]; rfl) ?_
                refine w_goto (tgt := 40) b dX9_call_96 (by decide) ?_
                refine ww_forget 4 ?_
                exact ih (s + 1) c k wide base a1 b1 f1 (fu e s a1) S1 T1 U1 V1 hcd hc hk (by omega) (by omega) (by rw [gk.1, fu_n (by omega)]; exact hS) gT (by rw [gk.2.2.1, fu_n (by omega)]; exact hU) (by rw [gk.2.2.2, fu_n (by omega)]; exact hV) (by omega) hw (by omega) g4 (fun z => kw (e2.trans z)) (fun t' S' T' U' V' i1 i2 i3 i4 i5 => by
                  have q := ko t' S' T' U' V' i1 (by omega) i3 i4 (fun j j1 j2 => by
                    have q1 := i5 j j1 j2
                    have q2 := g5 j j1 (by omega)
                    rw [fu_n (by omega)] at q2
                    refine ⟨q1.1.trans q2.1, ?_, ?_, ?_⟩
                    · rw [q1.2.1, q2.2.1, fu_n (by omega), fu_n (by omega)]
                    · rw [q1.2.2.1, q2.2.2.1, fu_n (by omega)]
                    · rw [q1.2.2.2, q2.2.2.2, fu_n (by omega)])
                  rw [if_pos (show k = 0 by omega)] at q ⊢
                  exact q)
          · refine z_bipush b dX9_call_140 (by decide) ?_
            exact w_iret b dX9_call_142 rfl (by omega) (by omega) (kw (sgL_none (by unfold sgS; rw [if_pos (show 1000 < bg + 1 by omega)])) _ _ _ _ _ _ _ (by omega) hc7)
        · exfalso; omega
