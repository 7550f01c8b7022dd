/-! THE REFERENCE: stepOf (by p28.py) -/
set_option maxRecDepth 20000 in
theorem l_so1 {X : Cx} {l0 : Launch} {g : Gw} {Z : State → Prop} {mo nx : Nat} {h0 : Nat → va_E} {I : Nat → Int} {F : Nat → Int → Int} (b : BX X l0 g mX9_stepOf 2 0 0) {x base wide had a : Int} {f : Int → Int} (hx : 0 ≤ x ∧ x < 144) (hn : 1 ≤ F 5 x ∧ F 5 x ≤ 40) (ha : 0 ≤ a ∧ a + F 5 x ≤ 1000) : ∀ (n : Nat) (i : Int), (i + n = F 5 x) → (0 ≤ i) → WW X g mX9_stepOf.2.2.1 Z 0 0 81 [some (.ref mo), some (.int (iI (x))), some (.int (iI (base))), some (.int (iI (wide))), some (.int (iI (1))), some (.int (iI (had))), none] [] (mp mo h0 (va_up I 13 (a + F 5 x)) (va_up F 7 (exF (fun _ => F 6 x) a (F 5 x) f)), nx) → WW X g mX9_stepOf.2.2.1 Z 0 0 47 [some (.ref mo), some (.int (iI (x))), some (.int (iI (base))), some (.int (iI (wide))), some (.int (iI (1))), some (.int (iI (had))), some (.int (iI (i)))] [] (mp mo h0 (va_up I 13 (a + i)) (va_up F 7 (exF (fun _ => F 6 x) a i f)), nx) := by
  intro n
  induction n with
  | zero =>
    intro i h1 h2 kk
    refine w_iload b dX9_stepOf_47 rfl ?_
    refine w_aload_n b dX9_stepOf_49 rfl rfl ?_
    refine m_get b dX9_stepOf_50 lfX9_23 rfl ?_
    refine w_iload_n b dX9_stepOf_53 rfl ?_
    refine m_ald (v := F 5 x) b dX9_stepOf_54 rfl (by omega) rfl ?_
    refine z_icmp_ge (tgt := 81) b dX9_stepOf_55 (by decide) (by omega) (fun c55 => ?_) (fun c55 => ?_)
    · refine ww_forget 6 ?_
      exact ww_cast rfl rfl (by rw [show i = F 5 x by omega]) kk
    · exfalso; omega
  | succ n ih =>
    intro i h1 h2 kk
    refine w_iload b dX9_stepOf_47 rfl ?_
    refine w_aload_n b dX9_stepOf_49 rfl rfl ?_
    refine m_get b dX9_stepOf_50 lfX9_23 rfl ?_
    refine w_iload_n b dX9_stepOf_53 rfl ?_
    refine m_ald (v := F 5 x) b dX9_stepOf_54 rfl (by omega) rfl ?_
    refine z_icmp_ge (tgt := 81) b dX9_stepOf_55 (by decide) (by omega) (fun c55 => ?_) (fun c55 => ?_)
    · exfalso; omega
    · refine w_iload b dX9_stepOf_58 rfl ?_
      refine z_if_eq (tgt := 81) b dX9_stepOf_60 (by decide) (by omega) (fun c60 => ?_) (fun c60 => ?_)
      · exfalso; omega
      · refine w_aload_n b dX9_stepOf_63 rfl rfl ?_
        refine w_aload_n b dX9_stepOf_64 rfl rfl ?_
        refine m_get b dX9_stepOf_65 lfX9_26 rfl ?_
        refine w_iload_n b dX9_stepOf_68 rfl ?_
        refine m_ald (v := F 6 x) b dX9_stepOf_69 rfl (by omega) rfl ?_
        refine c_V1 b dX9_stepOf_70 lmX9_151 (mp_obj _ _ _ _) (k_add1 (by omega)) (tle rfl) (by omega) (by omega) (by omega) ?_
        refine ww_cast (σ' := (mp mo h0 (va_up I 13 (a + (i + 1))) (va_up F 7 (exF (fun _ => F 6 x) a (i + 1) f)), nx)) rfl rfl (by rw [exF_s (by omega) rfl, show a + i + 1 = a + (i + 1) by omega]) ?_
        refine w_istore b dX9_stepOf_73 (tlt rfl) rfl ?_
        refine z_iinc b dX9_stepOf_75 rfl rfl rfl ?_
        refine w_goto (tgt := 47) b dX9_stepOf_78 (by decide) ?_
        exact ih (i + 1) (by omega) (by omega) kk
set_option maxRecDepth 20000 in
theorem l_up1 {X : Cx} {l0 : Launch} {g : Gw} {Z : State → Prop} {mo nx : Nat} {h0 : Nat → va_E} {I : Nat → Int} {F : Nat → Int → Int} (b : BX X l0 g mX9_stepOf 2 0 0) {x base wide had a m : Int} {f : Int → Int} (hx : 0 ≤ x ∧ x < 144) (hw : -100000 ≤ wide ∧ wide ≤ 1000) (hb : 0 ≤ base ∧ base ≤ a) (ha : a ≤ 1000) (hm : 0 ≤ m ∧ a + m ≤ 1000) (hmm : m = if a - base < wide then wide - (a - base) else 0) : ∀ (n : Nat) (i : Int), (i + n = m) → (0 ≤ i) → WW X g mX9_stepOf.2.2.1 Z 0 0 205 [some (.ref mo), some (.int (iI (x))), some (.int (iI (base))), some (.int (iI (wide))), some (.int (iI (1))), some (.int (iI (had))), none] [] (mp mo h0 (va_up I 13 (a + m)) (va_up F 7 (exF (fun _ => F 6 x) a m f)), nx) → WW X g mX9_stepOf.2.2.1 Z 0 0 84 [some (.ref mo), some (.int (iI (x))), some (.int (iI (base))), some (.int (iI (wide))), some (.int (iI (1))), some (.int (iI (had))), none] [] (mp mo h0 (va_up I 13 (a + i)) (va_up F 7 (exF (fun _ => F 6 x) a i f)), nx) := by
  intro n
  induction n with
  | zero =>
    intro i h1 h2 kk
    have hmm2 : (a - base < wide ∧ m = wide - (a - base)) ∨ (¬ a - base < wide ∧ m = 0) := by
      by_cases z : a - base < wide
      · exact Or.inl ⟨z, by rw [hmm, if_pos z]⟩
      · exact Or.inr ⟨z, by rw [hmm, if_neg z]⟩
    refine w_iload b dX9_stepOf_84 rfl ?_
    refine z_if_eq (tgt := 205) b dX9_stepOf_86 (by decide) (by omega) (fun c86 => ?_) (fun c86 => ?_)
    · exfalso; omega
    · refine w_aload_n b dX9_stepOf_89 rfl rfl ?_
      refine m_get (v := .int (iI (a + i))) b dX9_stepOf_90 lfX9_47 rfl ?_
      refine w_iload_n b dX9_stepOf_93 rfl ?_
      refine z_isub b dX9_stepOf_94 ?_
      refine w_iload_n b dX9_stepOf_95 rfl ?_
      refine z_icmp_ge (tgt := 205) b dX9_stepOf_96 (by decide) (by omega) (fun c96 => ?_) (fun c96 => ?_)
      · exact ww_cast rfl rfl (by rw [show i = m by omega]) kk
      · exfalso; omega
  | succ n ih =>
    intro i h1 h2 kk
    have hmm2 : (a - base < wide ∧ m = wide - (a - base)) ∨ (¬ a - base < wide ∧ m = 0) := by
      by_cases z : a - base < wide
      · exact Or.inl ⟨z, by rw [hmm, if_pos z]⟩
      · exact Or.inr ⟨z, by rw [hmm, if_neg z]⟩
    refine w_iload b dX9_stepOf_84 rfl ?_
    refine z_if_eq (tgt := 205) b dX9_stepOf_86 (by decide) (by omega) (fun c86 => ?_) (fun c86 => ?_)
    · exfalso; omega
    · refine w_aload_n b dX9_stepOf_89 rfl rfl ?_
      refine m_get (v := .int (iI (a + i))) b dX9_stepOf_90 lfX9_47 rfl ?_
      refine w_iload_n b dX9_stepOf_93 rfl ?_
      refine z_isub b dX9_stepOf_94 ?_
      refine w_iload_n b dX9_stepOf_95 rfl ?_
      refine z_icmp_ge (tgt := 205) b dX9_stepOf_96 (by decide) (by omega) (fun c96 => ?_) (fun c96 => ?_)
      · exfalso; omega
      · refine w_aload_n b dX9_stepOf_99 rfl rfl ?_
        refine w_aload_n b dX9_stepOf_100 rfl rfl ?_
        refine m_get b dX9_stepOf_101 lfX9_26 rfl ?_
        refine w_iload_n b dX9_stepOf_104 rfl ?_
        refine m_ald (v := F 6 x) b dX9_stepOf_105 rfl (by omega) rfl ?_
        refine c_V1 b dX9_stepOf_106 lmX9_151 (mp_obj _ _ _ _) (k_add1 (by omega)) (tle rfl) (by omega) (by omega) (by omega) ?_
        refine ww_cast (σ' := (mp mo h0 (va_up I 13 (a + (i + 1))) (va_up F 7 (exF (fun _ => F 6 x) a (i + 1) f)), nx)) rfl rfl (by rw [exF_s (by omega) rfl, show a + i + 1 = a + (i + 1) by omega]) ?_
        refine w_istore b dX9_stepOf_109 (tlt rfl) rfl ?_
        refine w_goto (tgt := 84) b dX9_stepOf_111 (by decide) ?_
        exact ih (i + 1) (by omega) (by omega) kk
set_option maxRecDepth 20000 in
theorem l_li1 {X : Cx} {l0 : Launch} {g : Gw} {Z : State → Prop} {mo nx : Nat} {h0 : Nat → va_E} {I : Nat → Int} {F : Nat → Int → Int} (b : BX X l0 g mX9_stepOf 2 0 0) {x base wide had a m : Int} {f : Int → Int} (hx : 0 ≤ x ∧ x < 144) (hw : -100000 ≤ wide ∧ wide ≤ 1000) (hb : 0 ≤ base ∧ base ≤ a) (ha : a ≤ 1000) (hm : 0 ≤ m ∧ a + m ≤ 1000) (hmm : m = if a - base < wide then wide - (a - base) else 0) (hn : 1 ≤ F 5 x ∧ F 5 x ≤ 9) (h21 : 0 ≤ I 21 ∧ I 21 ≤ 40) (h1_ : 4 ≤ I 1 ∧ I 1 ≤ 40) : ∀ (n : Nat) (i : Int), (i + n = m) → (0 ≤ i) → WW X g mX9_stepOf.2.2.1 Z 0 0 205 [some (.ref mo), some (.int (iI (x))), some (.int (iI (base))), some (.int (iI (wide))), some (.int (iI (1))), some (.int (iI (had))), none] [] (mp mo h0 (va_up I 13 (a + m)) (va_up F 7 (exF (fun i => (fun p => if I 21 < F 5 x ∨ I 1 ≤ p then 0 else F 23 (40 * (I 21 - F 5 x) + p)) (a - base + i)) a m f)), nx) → WW X g mX9_stepOf.2.2.1 Z 0 0 165 [some (.ref mo), some (.int (iI (x))), some (.int (iI (base))), some (.int (iI (wide))), some (.int (iI (1))), some (.int (iI (had))), none] [] (mp mo h0 (va_up I 13 (a + i)) (va_up F 7 (exF (fun i => (fun p => if I 21 < F 5 x ∨ I 1 ≤ p then 0 else F 23 (40 * (I 21 - F 5 x) + p)) (a - base + i)) a i f)), nx) := by
  intro n
  induction n with
  | zero =>
    intro i h1 h2 kk
    have hmm2 : (a - base < wide ∧ m = wide - (a - base)) ∨ (¬ a - base < wide ∧ m = 0) := by
      by_cases z : a - base < wide
      · exact Or.inl ⟨z, by rw [hmm, if_pos z]⟩
      · exact Or.inr ⟨z, by rw [hmm, if_neg z]⟩
    refine w_iload b dX9_stepOf_165 rfl ?_
    refine z_if_eq (tgt := 205) b dX9_stepOf_167 (by decide) (by omega) (fun c167 => ?_) (fun c167 => ?_)
    · exfalso; omega
    · refine w_aload_n b dX9_stepOf_170 rfl rfl ?_
      refine m_get (v := .int (iI (a + i))) b dX9_stepOf_171 lfX9_47 rfl ?_
      refine w_iload_n b dX9_stepOf_174 rfl ?_
      refine z_isub b dX9_stepOf_175 ?_
      refine w_iload_n b dX9_stepOf_176 rfl ?_
      refine z_icmp_ge (tgt := 205) b dX9_stepOf_177 (by decide) (by omega) (fun c177 => ?_) (fun c177 => ?_)
      · exact ww_cast rfl rfl (by rw [show i = m by omega]) kk
      · exfalso; omega
  | succ n ih =>
    intro i h1 h2 kk
    have hmm2 : (a - base < wide ∧ m = wide - (a - base)) ∨ (¬ a - base < wide ∧ m = 0) := by
      by_cases z : a - base < wide
      · exact Or.inl ⟨z, by rw [hmm, if_pos z]⟩
      · exact Or.inr ⟨z, by rw [hmm, if_neg z]⟩
    refine w_iload b dX9_stepOf_165 rfl ?_
    refine z_if_eq (tgt := 205) b dX9_stepOf_167 (by decide) (by omega) (fun c167 => ?_) (fun c167 => ?_)
    · exfalso; omega
    · refine w_aload_n b dX9_stepOf_170 rfl rfl ?_
      refine m_get (v := .int (iI (a + i))) b dX9_stepOf_171 lfX9_47 rfl ?_
      refine w_iload_n b dX9_stepOf_174 rfl ?_
      refine z_isub b dX9_stepOf_175 ?_
      refine w_iload_n b dX9_stepOf_176 rfl ?_
      refine z_icmp_ge (tgt := 205) b dX9_stepOf_177 (by decide) (by omega) (fun c177 => ?_) (fun c177 => ?_)
      · exfalso; omega
      · refine w_aload_n b dX9_stepOf_180 rfl rfl ?_
        refine w_aload_n b dX9_stepOf_181 rfl rfl ?_
        refine w_aload_n b dX9_stepOf_182 rfl rfl ?_
        refine m_get b dX9_stepOf_183 lfX9_23 rfl ?_
        refine w_iload_n b dX9_stepOf_186 rfl ?_
        refine m_ald (v := F 5 x) b dX9_stepOf_187 rfl (by omega) rfl ?_
        refine w_aload_n b dX9_stepOf_188 rfl rfl ?_
        refine m_get (v := .int (iI (a + i))) b dX9_stepOf_189 lfX9_47 rfl ?_
        refine w_iload_n b dX9_stepOf_192 rfl ?_
        refine z_isub b dX9_stepOf_193 ?_
        refine c_V2 (w := .int (iI ((fun p => if I 21 < F 5 x ∨ I 1 ≤ p then 0 else F 23 (40 * (I 21 - F 5 x) + p)) (a + i - base)))) b dX9_stepOf_194 lmX9_158 (mp_obj _ _ _ _) (k_X9_below (I := va_up I 13 (a + i)) (F := va_up F 7 (exF (fun i => (fun p => if I 21 < F 5 x ∨ I 1 ≤ p then 0 else F 23 (40 * (I 21 - F 5 x) + p)) (a - base + i)) a i f)) (r := F 5 x) hn (by omega) h21 h1_) (tle rfl) (by omega) (by omega) (by omega) ?_
        refine c_V1 b dX9_stepOf_197 lmX9_151 (mp_obj _ _ _ _) (k_add1 (by omega)) (tle rfl) (by omega) (by omega) (by omega) ?_
        refine ww_cast (σ' := (mp mo h0 (va_up I 13 (a + (i + 1))) (va_up F 7 (exF (fun i => (fun p => if I 21 < F 5 x ∨ I 1 ≤ p then 0 else F 23 (40 * (I 21 - F 5 x) + p)) (a - base + i)) a (i + 1) f)), nx)) rfl rfl (by rw [exF_s (by omega) (by show (fun p => if I 21 < F 5 x ∨ I 1 ≤ p then 0 else F 23 (40 * (I 21 - F 5 x) + p)) (a - base + i) = (fun p => if I 21 < F 5 x ∨ I 1 ≤ p then 0 else F 23 (40 * (I 21 - F 5 x) + p)) (a + i - base); rw [show a - base + i = a + i - base by omega]), show a + i + 1 = a + (i + 1) by omega]) ?_
        refine w_istore b dX9_stepOf_200 (tlt rfl) rfl ?_
        refine w_goto (tgt := 165) b dX9_stepOf_202 (by decide) ?_
        exact ih (i + 1) (by omega) (by omega) kk
theorem again_eq {a base r : Int} {f : Int → Int} (hb : 0 ≤ base) (h1 : base ≤ a) (hr : 0 ≤ r) : exF (fun k => if (0 : Int) = 0 then exF (fun i => f (base + i % (a - base))) a ((a - base) * r) f (base + k) else exF (fun i => f (base + i % (a - base))) a ((a - base) * r) f (a - 1 - k)) (a + (a - base) * r) (a - base) (exF (fun i => f (base + i % (a - base))) a ((a - base) * r) f) = exF (fun i => f (base + i % (a - base))) a ((a - base) * (r + 1)) f := by
  have hge := Int.mul_nonneg (show 0 ≤ a - base by omega) hr
  rw [exF_app hge (by omega)]
  · rw [Int.mul_add, Int.mul_one]
  · intro j h2 h3
    show (if (0 : Int) = 0 then exF (fun i => f (base + i % (a - base))) a ((a - base) * r) f (base + j) else _) = f (base + ((a - base) * r + j) % (a - base))
    rw [if_pos rfl, exF_lo (by omega)]
    congr 2
    rw [Int.add_comm ((a - base) * r) j, Int.add_mul_emod_self_left, Int.emod_eq_of_lt h2 h3]
set_option maxRecDepth 20000 in
theorem l_ag1 {X : Cx} {l0 : Launch} {g : Gw} {Z : State → Prop} {mo nx : Nat} {h0 : Nat → va_E} {I : Nat → Int} {F : Nat → Int → Int} (b : BX X l0 g mX9_stepOf 2 0 0) {x base wide a : Int} {f : Int → Int} (hx : 0 ≤ x ∧ x < 144) (hn : 1 ≤ F 5 x ∧ F 5 x ≤ 9) (hb : 0 ≤ base ∧ base ≤ a) (ha : a + (a - base) * F 5 x ≤ 1000) : ∀ (n : Nat) (r : Int), (r + n = F 5 x) → (0 ≤ r) → WW X g mX9_stepOf.2.2.1 Z 0 0 162 [some (.ref mo), some (.int (iI (x))), some (.int (iI (base))), some (.int (iI (wide))), some (.int (iI (1))), some (.int (iI (a))), none] [] (mp mo h0 (va_up I 13 (a + (a - base) * F 5 x)) (va_up F 7 (exF (fun i => f (base + i % (a - base))) a ((a - base) * F 5 x) f)), nx) → WW X g mX9_stepOf.2.2.1 Z 0 0 130 [some (.ref mo), some (.int (iI (x))), some (.int (iI (base))), some (.int (iI (wide))), some (.int (iI (1))), some (.int (iI (a))), some (.int (iI (r)))] [] (mp mo h0 (va_up I 13 (a + (a - base) * r)) (va_up F 7 (exF (fun i => f (base + i % (a - base))) a ((a - base) * r) f)), nx) := by
  intro n
  induction n with
  | zero =>
    intro r h1 h2 kk
    refine w_iload b dX9_stepOf_130 rfl ?_
    refine w_aload_n b dX9_stepOf_132 rfl rfl ?_
    refine m_get b dX9_stepOf_133 lfX9_23 rfl ?_
    refine w_iload_n b dX9_stepOf_136 rfl ?_
    refine m_ald (v := F 5 x) b dX9_stepOf_137 rfl (by omega) rfl ?_
    refine z_icmp_ge (tgt := 162) b dX9_stepOf_138 (by decide) (by omega) (fun c138 => ?_) (fun c138 => ?_)
    · refine ww_forget 6 ?_
      exact ww_cast rfl rfl (by rw [show r = F 5 x by omega]) kk
    · exfalso; omega
  | succ n ih =>
    intro r h1 h2 kk
    have hmul : a + (a - base) * r + (a - base) = a + (a - base) * (r + 1) := by rw [Int.mul_add]; omega
    have hle := Int.mul_le_mul_of_nonneg_left (show r + 1 ≤ F 5 x by omega) (show 0 ≤ a - base by omega)
    have hge := Int.mul_nonneg (show 0 ≤ a - base by omega) h2
    refine w_iload b dX9_stepOf_130 rfl ?_
    refine w_aload_n b dX9_stepOf_132 rfl rfl ?_
    refine m_get b dX9_stepOf_133 lfX9_23 rfl ?_
    refine w_iload_n b dX9_stepOf_136 rfl ?_
    refine m_ald (v := F 5 x) b dX9_stepOf_137 rfl (by omega) rfl ?_
    refine z_icmp_ge (tgt := 162) b dX9_stepOf_138 (by decide) (by omega) (fun c138 => ?_) (fun c138 => ?_)
    · exfalso; omega
    · refine w_iload b dX9_stepOf_141 rfl ?_
      refine z_if_eq (tgt := 162) b dX9_stepOf_143 (by decide) (by omega) (fun c143 => ?_) (fun c143 => ?_)
      · exfalso; omega
      · refine w_aload_n b dX9_stepOf_146 rfl rfl ?_
        refine w_iload_n b dX9_stepOf_147 rfl ?_
        refine w_iload b dX9_stepOf_148 rfl ?_
        refine z_iconst b dX9_stepOf_150 ?_
        refine c_V3 b dX9_stepOf_151 lmX9_154 (mp_obj _ _ _ _) (k_addAll1 (fr := base) (to := a) (bk := 0) (a := a + (a - base) * r) (f := exF (fun i => f (base + i % (a - base))) a ((a - base) * r) f) (by omega) (by omega) (by omega) (Or.inl rfl)) (tle rfl) (by omega) (by omega) (by omega) ?_
        refine ww_cast (σ' := (mp mo h0 (va_up I 13 (a + (a - base) * (r + 1))) (va_up F 7 (exF (fun i => f (base + i % (a - base))) a ((a - base) * (r + 1)) f)), nx)) rfl rfl (by rw [again_eq (by omega) (by omega) h2, hmul]) ?_
        refine w_istore b dX9_stepOf_154 (tlt rfl) rfl ?_
        refine z_iinc b dX9_stepOf_156 rfl rfl rfl ?_
        refine w_goto (tgt := 130) b dX9_stepOf_159 (by decide) ?_
        exact ih (r + 1) (by omega) (by omega) kk
/-- how many knots a step adds (it isn't a SING); which -/
def amF (k n own wide : Int) : Int := if k = 0 then n else if k = 2 then own else if k = 3 then own * n else if own < wide then wide - own else 0
def vaF (k c : Int) (bel : Int → Int) (base a : Int) (f : Int → Int) : Int → Int := fun i => if k = 0 ∨ k = 1 then c else if k = 2 then f (a - 1 - i) else if k = 3 then f (base + i % (a - base)) else bel (a - base + i)
/-- the colour of the place p in the n-th row below -/
def blF (I : Nat → Int) (F : Nat → Int → Int) (n : Int) : Int → Int := fun p => if I 21 < n ∨ I 1 ≤ p then 0 else F 23 (40 * (I 21 - n) + p)
set_option maxRecDepth 20000 in
theorem k_stepOf1_0 {l0 : Launch} {g : Gw} {mo nx : Nat} {h0 : Nat → va_E} {I : Nat → Int} {F : Nat → Int → Int} {x base wide a : Int} {f : Int → Int} (hx : 0 ≤ x ∧ x < 144) (hk : F 4 x = 0) (h5 : (F 4 x = 0 → 1 ≤ F 5 x ∧ F 5 x ≤ 40) ∧ ((F 4 x = 3 ∨ F 4 x = 5) → 1 ≤ F 5 x ∧ F 5 x ≤ 9)) (hw : -100000 ≤ wide ∧ wide ≤ 1000) (hb : 0 ≤ base ∧ base ≤ a) (ha : a ≤ 1000) (h21 : 0 ≤ I 21 ∧ I 21 ≤ 40) (h1_ : 4 ≤ I 1 ∧ I 1 ≤ 40) (hfit : a + F 5 x ≤ 1000) : MD l0 g 2 mX9_stepOf (mp mo h0 (va_up I 13 (a)) (va_up F 7 (f)), nx) [.ref mo, .int (iI (x)), .int (iI (base)), .int (iI (wide))] 0 0 (some (.int (iI 1))) (mp mo h0 (va_up I 13 (a + F 5 x)) (va_up F 7 (exF (fun _ => F 6 x) a (F 5 x) f)), nx) := by
  refine MD.of (by decide +kernel) (by simp [Value.category]) (tle rfl) (fun X b => ?_)
  change WW X g _ _ 0 0 0 [some (.ref mo), some (.int (iI (x))), some (.int (iI (base))), some (.int (iI (wide))), none, none, none] [] _
  refine z_iconst b dX9_stepOf_0 ?_
  refine w_istore b dX9_stepOf_1 (tlt rfl) rfl ?_
  refine w_aload_n b dX9_stepOf_3 rfl rfl ?_
  refine m_get (v := .int (iI a)) b dX9_stepOf_4 lfX9_47 rfl ?_
  refine w_istore b dX9_stepOf_7 (tlt rfl) rfl ?_
  refine w_aload_n b dX9_stepOf_9 rfl rfl ?_
  refine m_get b dX9_stepOf_10 lfX9_20 rfl ?_
  refine w_iload_n b dX9_stepOf_13 rfl ?_
  refine m_ald (v := 0) b dX9_stepOf_14 rfl (by omega) hk ?_
  refine w_tswI (tgt := 44) b dX9_stepOf_15 (by decide) (by decide) rfl (by decide) ?_
  refine z_iconst b dX9_stepOf_44 ?_
  refine w_istore b dX9_stepOf_45 (tlt rfl) rfl ?_
  refine ww_cast (σ' := (mp mo h0 (va_up I 13 (a + 0)) (va_up F 7 (exF (fun _ => F 6 x) a 0 f)), nx)) rfl rfl (by rw [exF_0, Int.add_zero]) ?_
  refine l_so1 (a := a) b hx (h5.1 hk) (by omega) (F 5 x).toNat 0 (by have := h5.1 hk; omega) (by omega) ?_
  refine w_goto (tgt := 205) b dX9_stepOf_81 (by decide) ?_
  refine w_iload b dX9_stepOf_205 rfl ?_
  exact z_zret b dX9_stepOf_207 rfl (by omega) (by omega) (by omega) ⟨iv_eq (by first | rfl | omega | ((try simp only [b2]); ((repeat' split) <;> (first | rfl | omega)))), rfl⟩
set_option maxRecDepth 20000 in
theorem k_stepOf1_1 {l0 : Launch} {g : Gw} {mo nx : Nat} {h0 : Nat → va_E} {I : Nat → Int} {F : Nat → Int → Int} {x base wide a : Int} {f : Int → Int} (hx : 0 ≤ x ∧ x < 144) (hk : F 4 x = 1) (h5 : (F 4 x = 0 → 1 ≤ F 5 x ∧ F 5 x ≤ 40) ∧ ((F 4 x = 3 ∨ F 4 x = 5) → 1 ≤ F 5 x ∧ F 5 x ≤ 9)) (hw : -100000 ≤ wide ∧ wide ≤ 1000) (hb : 0 ≤ base ∧ base ≤ a) (ha : a ≤ 1000) (h21 : 0 ≤ I 21 ∧ I 21 ≤ 40) (h1_ : 4 ≤ I 1 ∧ I 1 ≤ 40) (hfit : a + (if a - base < wide then wide - (a - base) else 0) ≤ 1000) : MD l0 g 2 mX9_stepOf (mp mo h0 (va_up I 13 (a)) (va_up F 7 (f)), nx) [.ref mo, .int (iI (x)), .int (iI (base)), .int (iI (wide))] 0 0 (some (.int (iI 1))) (mp mo h0 (va_up I 13 (a + (if a - base < wide then wide - (a - base) else 0))) (va_up F 7 (exF (fun _ => F 6 x) a ((if a - base < wide then wide - (a - base) else 0)) f)), nx) := by
  refine MD.of (by decide +kernel) (by simp [Value.category]) (tle rfl) (fun X b => ?_)
  change WW X g _ _ 0 0 0 [some (.ref mo), some (.int (iI (x))), some (.int (iI (base))), some (.int (iI (wide))), none, none, none] [] _
  refine z_iconst b dX9_stepOf_0 ?_
  refine w_istore b dX9_stepOf_1 (tlt rfl) rfl ?_
  refine w_aload_n b dX9_stepOf_3 rfl rfl ?_
  refine m_get (v := .int (iI a)) b dX9_stepOf_4 lfX9_47 rfl ?_
  refine w_istore b dX9_stepOf_7 (tlt rfl) rfl ?_
  refine w_aload_n b dX9_stepOf_9 rfl rfl ?_
  refine m_get b dX9_stepOf_10 lfX9_20 rfl ?_
  refine w_iload_n b dX9_stepOf_13 rfl ?_
  refine m_ald (v := 1) b dX9_stepOf_14 rfl (by omega) hk ?_
  refine w_tswI (tgt := 84) b dX9_stepOf_15 (by decide) (by decide) rfl (by decide) ?_
  refine ww_cast (σ' := (mp mo h0 (va_up I 13 (a + 0)) (va_up F 7 (exF (fun _ => F 6 x) a 0 f)), nx)) rfl rfl (by rw [exF_0, Int.add_zero]) ?_
  refine l_up1 (a := a) (m := if a - base < wide then wide - (a - base) else 0) b hx hw hb ha (by split <;> omega) rfl (if a - base < wide then wide - (a - base) else 0).toNat 0 (by split <;> omega) (by omega) ?_
  refine w_iload b dX9_stepOf_205 rfl ?_
  exact z_zret b dX9_stepOf_207 rfl (by omega) (by omega) (by omega) ⟨iv_eq (by first | rfl | omega | ((try simp only [b2]); ((repeat' split) <;> (first | rfl | omega)))), rfl⟩
set_option maxRecDepth 20000 in
theorem k_stepOf1_2 {l0 : Launch} {g : Gw} {mo nx : Nat} {h0 : Nat → va_E} {I : Nat → Int} {F : Nat → Int → Int} {x base wide a : Int} {f : Int → Int} (hx : 0 ≤ x ∧ x < 144) (hk : F 4 x = 2) (h5 : (F 4 x = 0 → 1 ≤ F 5 x ∧ F 5 x ≤ 40) ∧ ((F 4 x = 3 ∨ F 4 x = 5) → 1 ≤ F 5 x ∧ F 5 x ≤ 9)) (hw : -100000 ≤ wide ∧ wide ≤ 1000) (hb : 0 ≤ base ∧ base ≤ a) (ha : a ≤ 1000) (h21 : 0 ≤ I 21 ∧ I 21 ≤ 40) (h1_ : 4 ≤ I 1 ∧ I 1 ≤ 40) (hfit : a + (a - base) ≤ 1000) : MD l0 g 2 mX9_stepOf (mp mo h0 (va_up I 13 (a)) (va_up F 7 (f)), nx) [.ref mo, .int (iI (x)), .int (iI (base)), .int (iI (wide))] 0 0 (some (.int (iI 1))) (mp mo h0 (va_up I 13 (a + (a - base))) (va_up F 7 (exF (fun k => if (1 : Int) = 0 then f (base + k) else f (a - 1 - k)) a ((a - base)) f)), nx) := by
  refine MD.of (by decide +kernel) (by simp [Value.category]) (tle rfl) (fun X b => ?_)
  change WW X g _ _ 0 0 0 [some (.ref mo), some (.int (iI (x))), some (.int (iI (base))), some (.int (iI (wide))), none, none, none] [] _
  refine z_iconst b dX9_stepOf_0 ?_
  refine w_istore b dX9_stepOf_1 (tlt rfl) rfl ?_
  refine w_aload_n b dX9_stepOf_3 rfl rfl ?_
  refine m_get (v := .int (iI a)) b dX9_stepOf_4 lfX9_47 rfl ?_
  refine w_istore b dX9_stepOf_7 (tlt rfl) rfl ?_
  refine w_aload_n b dX9_stepOf_9 rfl rfl ?_
  refine m_get b dX9_stepOf_10 lfX9_20 rfl ?_
  refine w_iload_n b dX9_stepOf_13 rfl ?_
  refine m_ald (v := 2) b dX9_stepOf_14 rfl (by omega) hk ?_
  refine w_tswI (tgt := 114) b dX9_stepOf_15 (by decide) (by decide) rfl (by decide) ?_
  refine w_aload_n b dX9_stepOf_114 rfl rfl ?_
  refine w_iload_n b dX9_stepOf_115 rfl ?_
  refine w_iload b dX9_stepOf_116 rfl ?_
  refine z_iconst b dX9_stepOf_118 ?_
  refine c_V3 b dX9_stepOf_119 lmX9_154 (mp_obj _ _ _ _) (k_addAll1 (fr := base) (to := a) (bk := 1) hb (by omega) (by omega) (Or.inr rfl)) (tle rfl) (by omega) (by omega) (by omega) ?_
  refine w_istore b dX9_stepOf_122 (tlt rfl) rfl ?_
  refine w_goto (tgt := 205) b dX9_stepOf_124 (by decide) ?_
  refine w_iload b dX9_stepOf_205 rfl ?_
  exact z_zret b dX9_stepOf_207 rfl (by omega) (by omega) (by omega) ⟨rfl, rfl⟩
set_option maxRecDepth 20000 in
theorem k_stepOf1_3 {l0 : Launch} {g : Gw} {mo nx : Nat} {h0 : Nat → va_E} {I : Nat → Int} {F : Nat → Int → Int} {x base wide a : Int} {f : Int → Int} (hx : 0 ≤ x ∧ x < 144) (hk : F 4 x = 3) (h5 : (F 4 x = 0 → 1 ≤ F 5 x ∧ F 5 x ≤ 40) ∧ ((F 4 x = 3 ∨ F 4 x = 5) → 1 ≤ F 5 x ∧ F 5 x ≤ 9)) (hw : -100000 ≤ wide ∧ wide ≤ 1000) (hb : 0 ≤ base ∧ base ≤ a) (ha : a ≤ 1000) (h21 : 0 ≤ I 21 ∧ I 21 ≤ 40) (h1_ : 4 ≤ I 1 ∧ I 1 ≤ 40) (hfit : a + (a - base) * F 5 x ≤ 1000) : MD l0 g 2 mX9_stepOf (mp mo h0 (va_up I 13 (a)) (va_up F 7 (f)), nx) [.ref mo, .int (iI (x)), .int (iI (base)), .int (iI (wide))] 0 0 (some (.int (iI 1))) (mp mo h0 (va_up I 13 (a + (a - base) * F 5 x)) (va_up F 7 (exF (fun i => f (base + i % (a - base))) a ((a - base) * F 5 x) f)), nx) := by
  refine MD.of (by decide +kernel) (by simp [Value.category]) (tle rfl) (fun X b => ?_)
  change WW X g _ _ 0 0 0 [some (.ref mo), some (.int (iI (x))), some (.int (iI (base))), some (.int (iI (wide))), none, none, none] [] _
  refine z_iconst b dX9_stepOf_0 ?_
  refine w_istore b dX9_stepOf_1 (tlt rfl) rfl ?_
  refine w_aload_n b dX9_stepOf_3 rfl rfl ?_
  refine m_get (v := .int (iI a)) b dX9_stepOf_4 lfX9_47 rfl ?_
  refine w_istore b dX9_stepOf_7 (tlt rfl) rfl ?_
  refine w_aload_n b dX9_stepOf_9 rfl rfl ?_
  refine m_get b dX9_stepOf_10 lfX9_20 rfl ?_
  refine w_iload_n b dX9_stepOf_13 rfl ?_
  refine m_ald (v := 3) b dX9_stepOf_14 rfl (by omega) hk ?_
  refine w_tswI (tgt := 127) b dX9_stepOf_15 (by decide) (by decide) rfl (by decide) ?_
  refine z_iconst b dX9_stepOf_127 ?_
  refine w_istore b dX9_stepOf_128 (tlt rfl) rfl ?_
  refine ww_cast (σ' := (mp mo h0 (va_up I 13 (a + (a - base) * 0)) (va_up F 7 (exF (fun i => f (base + i % (a - base))) a ((a - base) * 0) f)), nx)) rfl rfl (by rw [Int.mul_zero, exF_0, Int.add_zero]) ?_
  refine l_ag1 (a := a) b hx (h5.2 (Or.inl hk)) hb (by omega) (F 5 x).toNat 0 (by have := h5.2 (Or.inl hk); omega) (by omega) ?_
  refine w_goto (tgt := 205) b dX9_stepOf_162 (by decide) ?_
  refine w_iload b dX9_stepOf_205 rfl ?_
  exact z_zret b dX9_stepOf_207 rfl (by omega) (by omega) (by omega) ⟨iv_eq (by first | rfl | omega | ((try simp only [b2]); ((repeat' split) <;> (first | rfl | omega)))), rfl⟩
set_option maxRecDepth 20000 in
theorem k_stepOf1_5 {l0 : Launch} {g : Gw} {mo nx : Nat} {h0 : Nat → va_E} {I : Nat → Int} {F : Nat → Int → Int} {x base wide a : Int} {f : Int → Int} (hx : 0 ≤ x ∧ x < 144) (hk : F 4 x = 5) (h5 : (F 4 x = 0 → 1 ≤ F 5 x ∧ F 5 x ≤ 40) ∧ ((F 4 x = 3 ∨ F 4 x = 5) → 1 ≤ F 5 x ∧ F 5 x ≤ 9)) (hw : -100000 ≤ wide ∧ wide ≤ 1000) (hb : 0 ≤ base ∧ base ≤ a) (ha : a ≤ 1000) (h21 : 0 ≤ I 21 ∧ I 21 ≤ 40) (h1_ : 4 ≤ I 1 ∧ I 1 ≤ 40) (hfit : a + (if a - base < wide then wide - (a - base) else 0) ≤ 1000) : MD l0 g 2 mX9_stepOf (mp mo h0 (va_up I 13 (a)) (va_up F 7 (f)), nx) [.ref mo, .int (iI (x)), .int (iI (base)), .int (iI (wide))] 0 0 (some (.int (iI 1))) (mp mo h0 (va_up I 13 (a + (if a - base < wide then wide - (a - base) else 0))) (va_up F 7 (exF (fun i => (fun p => if I 21 < F 5 x ∨ I 1 ≤ p then 0 else F 23 (40 * (I 21 - F 5 x) + p)) (a - base + i)) a ((if a - base < wide then wide - (a - base) else 0)) f)), nx) := by
  refine MD.of (by decide +kernel) (by simp [Value.category]) (tle rfl) (fun X b => ?_)
  change WW X g _ _ 0 0 0 [some (.ref mo), some (.int (iI (x))), some (.int (iI (base))), some (.int (iI (wide))), none, none, none] [] _
  refine z_iconst b dX9_stepOf_0 ?_
  refine w_istore b dX9_stepOf_1 (tlt rfl) rfl ?_
  refine w_aload_n b dX9_stepOf_3 rfl rfl ?_
  refine m_get (v := .int (iI a)) b dX9_stepOf_4 lfX9_47 rfl ?_
  refine w_istore b dX9_stepOf_7 (tlt rfl) rfl ?_
  refine w_aload_n b dX9_stepOf_9 rfl rfl ?_
  refine m_get b dX9_stepOf_10 lfX9_20 rfl ?_
  refine w_iload_n b dX9_stepOf_13 rfl ?_
  refine m_ald (v := 5) b dX9_stepOf_14 rfl (by omega) hk ?_
  refine w_tswO (tgt := 165) b dX9_stepOf_15 (by decide) (by decide) ?_
  refine ww_cast (σ' := (mp mo h0 (va_up I 13 (a + 0)) (va_up F 7 (exF (fun i => (fun p => if I 21 < F 5 x ∨ I 1 ≤ p then 0 else F 23 (40 * (I 21 - F 5 x) + p)) (a - base + i)) a 0 f)), nx)) rfl rfl (by rw [exF_0, Int.add_zero]) ?_
  refine l_li1 (a := a) (m := if a - base < wide then wide - (a - base) else 0) b hx hw hb ha (by split <;> omega) rfl (h5.2 (Or.inr hk)) h21 h1_ (if a - base < wide then wide - (a - base) else 0).toNat 0 (by split <;> omega) (by omega) ?_
  refine w_iload b dX9_stepOf_205 rfl ?_
  exact z_zret b dX9_stepOf_207 rfl (by omega) (by omega) (by omega) ⟨iv_eq (by first | rfl | omega | ((try simp only [b2]); ((repeat' split) <;> (first | rfl | omega)))), rfl⟩
theorem k_stepOf1 {l0 : Launch} {g : Gw} {mo nx : Nat} {h0 : Nat → va_E} {I : Nat → Int} {F : Nat → Int → Int} {x base wide a : Int} {f : Int → Int} (hx : 0 ≤ x ∧ x < 144) (hk : F 4 x = 0 ∨ F 4 x = 1 ∨ F 4 x = 2 ∨ F 4 x = 3 ∨ F 4 x = 5) (h5 : (F 4 x = 0 → 1 ≤ F 5 x ∧ F 5 x ≤ 40) ∧ ((F 4 x = 3 ∨ F 4 x = 5) → 1 ≤ F 5 x ∧ F 5 x ≤ 9)) (hw : -100000 ≤ wide ∧ wide ≤ 1000) (hb : 0 ≤ base ∧ base ≤ a) (ha : a ≤ 1000) (h21 : 0 ≤ I 21 ∧ I 21 ≤ 40) (h1_ : 4 ≤ I 1 ∧ I 1 ≤ 40) (hfit : a + amF (F 4 x) (F 5 x) (a - base) wide ≤ 1000) : MD l0 g 2 mX9_stepOf (mp mo h0 (va_up I 13 (a)) (va_up F 7 (f)), nx) [.ref mo, .int (iI x), .int (iI base), .int (iI wide)] 0 0 (some (.int (iI 1))) (mp mo h0 (va_up I 13 (a + amF (F 4 x) (F 5 x) (a - base) wide)) (va_up F 7 (exF (vaF (F 4 x) (F 6 x) (blF I F (F 5 x)) base a f) a (amF (F 4 x) (F 5 x) (a - base) wide) f)), nx) := by
  rcases hk with hk | hk | hk | hk | hk
  · have e : amF (F 4 x) (F 5 x) (a - base) wide = F 5 x := by rw [hk]; rfl
    have e2 : exF (vaF (F 4 x) (F 6 x) (blF I F (F 5 x)) base a f) a (F 5 x) f = exF (fun _ => F 6 x) a (F 5 x) f := exF_cong (fun j _ _ => by rw [hk]; rfl)
    rw [e] at hfit ⊢
    rw [e2]
    exact k_stepOf1_0 hx hk h5 hw hb ha h21 h1_ hfit
  · have e : amF (F 4 x) (F 5 x) (a - base) wide = (if a - base < wide then wide - (a - base) else 0) := by rw [hk]; rfl
    have e2 : exF (vaF (F 4 x) (F 6 x) (blF I F (F 5 x)) base a f) a (if a - base < wide then wide - (a - base) else 0) f = exF (fun _ => F 6 x) a (if a - base < wide then wide - (a - base) else 0) f := exF_cong (fun j _ _ => by rw [hk]; rfl)
    rw [e] at hfit ⊢
    rw [e2]
    exact k_stepOf1_1 hx hk h5 hw hb ha h21 h1_ hfit
  · have e : amF (F 4 x) (F 5 x) (a - base) wide = (a - base) := by rw [hk]; rfl
    have e2 : exF (vaF (F 4 x) (F 6 x) (blF I F (F 5 x)) base a f) a (a - base) f = exF (fun k => if (1 : Int) = 0 then f (base + k) else f (a - 1 - k)) a (a - base) f := exF_cong (fun j _ _ => by rw [hk]; rfl)
    rw [e] at hfit ⊢
    rw [e2]
    exact k_stepOf1_2 hx hk h5 hw hb ha h21 h1_ hfit
  · have e : amF (F 4 x) (F 5 x) (a - base) wide = (a - base) * F 5 x := by rw [hk]; rfl
    have e2 : exF (vaF (F 4 x) (F 6 x) (blF I F (F 5 x)) base a f) a ((a - base) * F 5 x) f = exF (fun i => f (base + i % (a - base))) a ((a - base) * F 5 x) f := exF_cong (fun j _ _ => by rw [hk]; rfl)
    rw [e] at hfit ⊢
    rw [e2]
    exact k_stepOf1_3 hx hk h5 hw hb ha h21 h1_ hfit
  · have e : amF (F 4 x) (F 5 x) (a - base) wide = (if a - base < wide then wide - (a - base) else 0) := by rw [hk]; rfl
    have e2 : exF (vaF (F 4 x) (F 6 x) (blF I F (F 5 x)) base a f) a (if a - base < wide then wide - (a - base) else 0) f = exF (fun i => (fun p => if I 21 < F 5 x ∨ I 1 ≤ p then 0 else F 23 (40 * (I 21 - F 5 x) + p)) (a - base + i)) a (if a - base < wide then wide - (a - base) else 0) f := exF_cong (fun j _ _ => by rw [hk]; rfl)
    rw [e] at hfit ⊢
    rw [e2]
    exact k_stepOf1_5 hx hk h5 hw hb ha h21 h1_ hfit
