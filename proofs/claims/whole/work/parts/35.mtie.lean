/-! THE REFERENCE: tie (by p35.py) -/
theorem allA_iff (p : Int → Prop) [DecidablePred p] : ∀ (n : Nat) (c e : Int), allA p n c e = 0 ↔ ¬ (¬ (n = 0 ∧ e = 0) ∧ (n = 0 ∨ (¬ e = 0 ∧ ∀ j, c ≤ j → j < c + n → p j))) := by
  intro n
  induction n with
  | zero => intro c e; simp [allA]
  | succ n ih =>
    intro c e
    unfold allA
    rw [ih (c + 1) (b2 (¬ e = 0 ∧ p c))]
    refine not_congr ?_
    constructor
    · rintro ⟨h1, h2⟩
      refine ⟨by simp, Or.inr ?_⟩
      rcases h2 with h2 | ⟨h2, h3⟩
      · have h4 : ¬ b2 (¬ e = 0 ∧ p c) = 0 := fun z => h1 ⟨h2, z⟩
        have h5 : ¬ e = 0 ∧ p c := Decidable.not_not.mp (fun z => h4 (b2_eq0.mpr z))
        refine ⟨h5.1, fun j g1 g2 => ?_⟩
        rw [show j = c by omega]
        exact h5.2
      · have h5 : ¬ e = 0 ∧ p c := Decidable.not_not.mp (fun z => h2 (b2_eq0.mpr z))
        refine ⟨h5.1, fun j g1 g2 => ?_⟩
        by_cases ej : j = c
        · rw [ej]; exact h5.2
        · exact h3 j (by omega) (by omega)
    · rintro ⟨_, h2⟩
      rcases h2 with h2 | ⟨h2, h3⟩
      · cases h2
      · have h5 : b2 (¬ e = 0 ∧ p c) = 1 := b2_t ⟨h2, h3 c (by omega) (by omega)⟩
        rw [h5]
        refine ⟨fun z => absurd z.2 (by decide), ?_⟩
        by_cases hn : n = 0
        · exact Or.inl hn
        · exact Or.inr ⟨by decide, fun j g1 g2 => h3 j (by omega) (by omega)⟩
theorem allA_8 (p : Int → Prop) [DecidablePred p] : allA p 8 0 1 = 0 ↔ ¬ ∀ c, 0 ≤ c → c ≤ 7 → p c := by
  rw [allA_iff]
  refine not_congr ⟨fun h c h1 h2 => ?_, fun h => ⟨by simp, Or.inr ⟨by decide, fun j g1 g2 => h j g1 (by omega)⟩⟩⟩
  rcases h.2 with z | z
  · cases z
  · exact z.2 c h1 (by omega)
/-- is there wool enough for the knots kn of a row -/
def enF (w : Int) (kn L lots : Int → Int) : Prop := ∀ c, 0 ≤ c → c ≤ 7 → cntF kn c w ≤ sumA (fun l => L (10 * c + l)) (lots c).toNat 0 0
/-- minutes of a hand -/
def mnF (s p kn : Int → Int) (w : Int) (h : Int) : Int := ((mnA s kn h w.toNat 0 0 0 (-1)).1 + p h - 1) / p h + (mnA s kn h w.toNat 0 0 0 (-1)).2
theorem mnF_rng {s p kn : Int → Int} {w h : Int} (hw : 0 ≤ w ∧ w ≤ 40) (hp : 1 ≤ p h ∧ p h ≤ 20) : 0 ≤ mnF s p kn w h ∧ mnF s p kn w h ≤ 99 := by
  have h1 := mnA_rng s kn h w.toNat 0 0 0 (-1) (by omega) (by omega)
  unfold mnF
  generalize mnA s kn h w.toNat 0 0 0 (-1) = z at h1
  have d1 := Int.ediv_nonneg (a := z.1 + p h - 1) (b := p h) (by omega) (by omega)
  have d2 := Int.ediv_le_self (a := z.1 + p h - 1) (p h) (by omega)
  omega
theorem mxA_rng {f : Int → Int} : ∀ (n : Nat) (h m : Int), (∀ j, h ≤ j → j < h + n → 0 ≤ f j ∧ f j ≤ 99) → (0 ≤ m ∧ m ≤ 99) → 0 ≤ mxA f n h m ∧ mxA f n h m ≤ 99 := by
  intro n
  induction n with
  | zero => intro h m _ hm; exact hm
  | succ n ih =>
    intro h m hf hm
    have := hf h (by omega) (by omega)
    refine ih (h + 1) _ (fun j h1 h2 => hf j (by omega) (by omega)) ?_
    split <;> omega
/-- the reference's arrays while a row is tied -/
def tS (F : Nat → Int → Int) (l a b s t : Int → Int) : Nat → Int → Int := va_up (va_up (va_up (va_up (va_up F 20 l) 22 a) 23 b) 24 s) 25 t
theorem tS_20 (F : Nat → Int → Int) (l a b s t x : Int → Int) : va_up (tS F l a b s t) 20 x = tS F x a b s t := by
  funext j
  unfold tS va_up
  (repeat' split) <;> first | rfl | omega
theorem tS_22 (F : Nat → Int → Int) (l a b s t x : Int → Int) : va_up (tS F l a b s t) 22 x = tS F l x b s t := by
  funext j
  unfold tS va_up
  (repeat' split) <;> first | rfl | omega
theorem tS_23 (F : Nat → Int → Int) (l a b s t x : Int → Int) : va_up (tS F l a b s t) 23 x = tS F l a x s t := by
  funext j
  unfold tS va_up
  (repeat' split) <;> first | rfl | omega
theorem tS_24 (F : Nat → Int → Int) (l a b s t x : Int → Int) : va_up (tS F l a b s t) 24 x = tS F l a b x t := by
  funext j
  unfold tS va_up
  (repeat' split) <;> first | rfl | omega
theorem tS_25 (F : Nat → Int → Int) (l a b s t x : Int → Int) : va_up (tS F l a b s t) 25 x = tS F l a b s x := by
  funext j
  unfold tS va_up
  (repeat' split) <;> first | rfl | omega
theorem tS_self (F : Nat → Int → Int) : tS F (F 20) (F 22) (F 23) (F 24) (F 25) = F := by
  funext j
  unfold tS va_up
  (repeat' split) <;> simp [*]
/-- the shade of the knot at place i -/
def sdF (L sh kn : Int → Int) (i : Int) : Int := sh (10 * kn i + ixF (tkF (lotF L (kn i)) (cntF kn (kn i) i).toNat))
set_option maxRecDepth 20000 in
theorem l_tie1 {X : Cx} {l0 : Launch} {g : Gw} {Z : State → Prop} {mo nx : Nat} {h0 : Nat → va_E} {I : Nat → Int} {F : Nat → Int → Int} (b : BX X l0 g mX9_tie 4 0 0) {c : Int} (h1_ : 4 ≤ I 1 ∧ I 1 ≤ 40) (h7_ : ∀ j, 0 ≤ j → j < 1000 → 0 ≤ F 7 j ∧ F 7 j ≤ 7) (h16 : ∀ j, 0 ≤ j → j ≤ 5 → 1 ≤ F 16 j ∧ F 16 j ≤ 40) (h17 : ∀ j, 0 ≤ j → j ≤ 5 → 1 ≤ F 17 j ∧ F 17 j ≤ 20) : ∀ (n : Nat) (h m : Int), (h + n = 6) → (0 ≤ h) → (0 ≤ m ∧ m ≤ 99) → WW X g mX9_tie.2.2.1 Z 0 0 95 [some (.ref mo), some (.int (iI (c))), none, some (.int (iI (mxA (mnF (F 16) (F 17) (F 7) (I 1)) n h m))), none, none, none] [] (mp mo h0 I F, nx) → WW X g mX9_tie.2.2.1 Z 0 0 61 [some (.ref mo), some (.int (iI (c))), none, some (.int (iI (m))), some (.int (iI (h))), none, none] [] (mp mo h0 I F, nx) := by
  intro n
  induction n with
  | zero =>
    intro h m h1 h2 h3 kk
    refine w_iload b dX9_tie_61 rfl ?_
    refine z_bipush b dX9_tie_63 (by decide) ?_
    refine z_icmp_ge (tgt := 95) b dX9_tie_65 (by decide) (by omega) (fun c65 => ?_) (fun c65 => ?_)
    · refine ww_forget 4 ?_
      exact kk
    · exfalso; omega
  | succ n ih =>
    intro h m h1 h2 h3 kk
    refine w_iload b dX9_tie_61 rfl ?_
    refine z_bipush b dX9_tie_63 (by decide) ?_
    refine z_icmp_ge (tgt := 95) b dX9_tie_65 (by decide) (by omega) (fun c65 => ?_) (fun c65 => ?_)
    · exfalso; omega
    · refine w_aload_n b dX9_tie_68 rfl rfl ?_
      refine w_iload b dX9_tie_69 rfl ?_
      refine c_V1 (w := .int (iI (mnF (F 16) (F 17) (F 7) (I 1) h))) b dX9_tie_71 lmX9_185 (mp_obj _ _ _ _) (k_X9_minutesOf (h := h) (by omega) (h17 h (by omega) (by omega)) h1_ h7_ h16) (tle rfl) (by omega) (by omega) (by omega) ?_
      have hr := mnF_rng (s := F 16) (p := F 17) (kn := F 7) (w := I 1) (h := h) (by omega) (h17 h (by omega) (by omega))
      refine w_iload_n b dX9_tie_74 rfl ?_
      refine z_icmp_le (tgt := 87) b dX9_tie_75 (by decide) (by omega) (fun c75 => ?_) (fun c75 => ?_)
      · have e1 : mxA (mnF (F 16) (F 17) (F 7) (I 1)) (n + 1) h m = mxA (mnF (F 16) (F 17) (F 7) (I 1)) n (h + 1) m := by
          conv => lhs; unfold mxA
          rw [if_neg (by omega)]
        rw [e1] at kk
        refine w_iload_n b dX9_tie_87 rfl ?_
        refine w_istore_n b dX9_tie_88 (tlt rfl) rfl ?_
        refine z_iinc b dX9_tie_89 rfl rfl rfl ?_
        refine w_goto (tgt := 61) b dX9_tie_92 (by decide) ?_
        exact ih (h + 1) _ (by omega) (by omega) (by omega) kk
      · have e1 : mxA (mnF (F 16) (F 17) (F 7) (I 1)) (n + 1) h m = mxA (mnF (F 16) (F 17) (F 7) (I 1)) n (h + 1) (mnF (F 16) (F 17) (F 7) (I 1) h) := by
          conv => lhs; unfold mxA
          rw [if_pos (by omega)]
        rw [e1] at kk
        refine w_aload_n b dX9_tie_78 rfl rfl ?_
        refine w_iload b dX9_tie_79 rfl ?_
        refine c_V1 (w := .int (iI (mnF (F 16) (F 17) (F 7) (I 1) h))) b dX9_tie_81 lmX9_185 (mp_obj _ _ _ _) (k_X9_minutesOf (h := h) (by omega) (h17 h (by omega) (by omega)) h1_ h7_ h16) (tle rfl) (by omega) (by omega) (by omega) ?_
        refine w_goto (tgt := 88) b dX9_tie_84 (by decide) ?_
        refine w_istore_n b dX9_tie_88 (tlt rfl) rfl ?_
        refine z_iinc b dX9_tie_89 rfl rfl rfl ?_
        refine w_goto (tgt := 61) b dX9_tie_92 (by decide) ?_
        exact ih (h + 1) _ (by omega) (by omega) (by omega) kk
set_option maxRecDepth 20000 in
theorem l_tie2 {X : Cx} {l0 : Launch} {g : Gw} {Z : State → Prop} {mo nx : Nat} {h0 : Nat → va_E} {I : Nat → Int} {F : Nat → Int → Int} (b : BX X l0 g mX9_tie 4 0 0) {c m i x s1 : Int} (hs1 : 0 ≤ s1 ∧ s1 ≤ 11) (hi : 0 ≤ i ∧ i ≤ 40) (hgt : i < F 8 s1) (hle : ∀ j, 0 ≤ j → j < s1 → F 8 j ≤ i) (h8 : ∀ j, 0 ≤ j → j ≤ s1 → inR (F 8 j)) : ∀ (n : Nat) (s : Int), (s + n = s1) → (0 ≤ s) → WW X g mX9_tie.2.2.1 Z 0 0 140 [some (.ref mo), some (.int (iI (c))), none, some (.int (iI (m))), some (.int (iI (s1))), some (.int (iI (i))), some (.int (iI (x)))] [] (mp mo h0 I F, nx) → WW X g mX9_tie.2.2.1 Z 0 0 122 [some (.ref mo), some (.int (iI (c))), none, some (.int (iI (m))), some (.int (iI (s))), some (.int (iI (i))), some (.int (iI (x)))] [] (mp mo h0 I F, nx) := by
  intro n
  induction n with
  | zero =>
    intro s h1 h2 kk
    refine w_aload_n b dX9_tie_122 rfl rfl ?_
    refine m_get b dX9_tie_123 lfX9_32 rfl ?_
    refine w_iload b dX9_tie_126 rfl ?_
    refine m_ald b dX9_tie_128 rfl (by omega) rfl ?_
    refine w_iload b dX9_tie_129 rfl ?_
    refine z_icmp_gt (tgt := 140) b dX9_tie_131 (by decide) (by have := h8 s (by omega) (by omega); omega) (fun c131 => ?_) (fun c131 => ?_)
    · rw [show s = s1 by omega]
      exact kk
    · exfalso
      rw [show s = s1 by omega] at c131
      exact c131 hgt
  | succ n ih =>
    intro s h1 h2 kk
    refine w_aload_n b dX9_tie_122 rfl rfl ?_
    refine m_get b dX9_tie_123 lfX9_32 rfl ?_
    refine w_iload b dX9_tie_126 rfl ?_
    refine m_ald b dX9_tie_128 rfl (by omega) rfl ?_
    refine w_iload b dX9_tie_129 rfl ?_
    refine z_icmp_gt (tgt := 140) b dX9_tie_131 (by decide) (by have := h8 s (by omega) (by omega); omega) (fun c131 => ?_) (fun c131 => ?_)
    · exfalso
      have := hle s (by omega) (by omega)
      omega
    · refine z_iinc b dX9_tie_134 rfl rfl rfl ?_
      refine w_goto (tgt := 122) b dX9_tie_137 (by decide) ?_
      exact ih (s + 1) (by omega) (by omega) kk
theorem lfF_rng {L kn : Int → Int} {w i : Int} (h20 : ∀ j, 0 ≤ j → j < 80 → 0 ≤ L j ∧ L j ≤ 1000) (h7_ : ∀ j, 0 ≤ j → j < 1000 → 0 ≤ kn j ∧ kn j ≤ 7) (hsum : ∀ c, 0 ≤ c → c ≤ 7 → cntF kn c w ≤ sumA (lotF L c) 10 0 0) (hi : 0 ≤ i ∧ i ≤ w) : ∀ j, 0 ≤ j → j < 80 → 0 ≤ lfF L kn i j ∧ lfF L kn i j ≤ 1000 := by
  intro j h1 h2
  unfold lfF
  rw [if_pos ⟨h1, h2⟩]
  have hm := cntF_mono (kn := kn) (c := j / 10) (i := i) hi.1 (w - i).toNat
  rw [show i + ((w - i).toNat : Int) = w by omega] at hm
  have hn := cntF_nn kn (j / 10) i
  have hs := hsum (j / 10) (by omega) (by omega)
  exact (tk_ok (f := lotF L (j / 10)) (fun l g1 g2 => h20 _ (by omega) (by omega)) (cntF kn (j / 10) i).toNat (by omega)).1 _ (by omega) (by omega)
set_option maxRecDepth 20000 in
theorem l_tie3 {X : Cx} {l0 : Launch} {g : Gw} {Z : State → Prop} {mo nx : Nat} {h0 : Nat → va_E} {I : Nat → Int} {F : Nat → Int → Int} (b : BX X l0 g mX9_tie 4 0 0) {c m nst : Int} (h1_ : 4 ≤ I 1 ∧ I 1 ≤ 40) (h21 : 0 ≤ I 21 ∧ I 21 < 40) (h7_ : ∀ j, 0 ≤ j → j < 1000 → 0 ≤ F 7 j ∧ F 7 j ≤ 7) (h20 : ∀ j, 0 ≤ j → j < 80 → 0 ≤ F 20 j ∧ F 20 j ≤ 1000) (hsum : ∀ c, 0 ≤ c → c ≤ 7 → cntF (F 7) c (I 1) ≤ sumA (lotF (F 20) c) 10 0 0) (hnst : 0 ≤ nst ∧ nst ≤ 12) (h8 : ∀ j, 0 ≤ j → j < nst → 0 ≤ F 8 j ∧ F 8 j ≤ 1000) (hex : ∀ i, 0 ≤ i → i < I 1 → ∃ j, 0 ≤ j ∧ j < nst ∧ i < F 8 j) : ∀ (n : Nat) (i s : Int), (i + n = I 1) → (0 ≤ i) → (0 ≤ s) → (∀ j, 0 ≤ j → j < s → F 8 j ≤ i) → WW X g mX9_tie.2.2.1 Z 0 0 201 [some (.ref mo), some (.int (iI (c))), none, some (.int (iI (m))), none, none, none] [] (mp mo h0 I (tS F (lfF (F 20) (F 7) (I 1)) (exF (F 7) (40 * I 21) (I 1) (F 22)) (exF (F 7) (40 * I 21) (I 1) (F 23)) (exF (sdF (F 20) (F 19) (F 7)) (40 * I 21) (I 1) (F 24)) (exF (stF (F 8)) (40 * I 21) (I 1) (F 25))), nx) → WW X g mX9_tie.2.2.1 Z 0 0 101 [some (.ref mo), some (.int (iI (c))), none, some (.int (iI (m))), some (.int (iI (s))), some (.int (iI (i))), none] [] (mp mo h0 I (tS F (lfF (F 20) (F 7) (i)) (exF (F 7) (40 * I 21) (i) (F 22)) (exF (F 7) (40 * I 21) (i) (F 23)) (exF (sdF (F 20) (F 19) (F 7)) (40 * I 21) (i) (F 24)) (exF (stF (F 8)) (40 * I 21) (i) (F 25))), nx) := by
  intro n
  induction n with
  | zero =>
    intro i s h1 h2 h3 hsl kk
    refine w_iload b dX9_tie_101 rfl ?_
    refine w_aload_n b dX9_tie_103 rfl rfl ?_
    refine m_get (v := .int (iI (I 1))) b dX9_tie_104 lfX9_134 rfl ?_
    refine z_icmp_ge (tgt := 201) b dX9_tie_107 (by decide) (by omega) (fun c107 => ?_) (fun c107 => ?_)
    · refine ww_forget 4 ?_
      refine ww_forget 5 ?_
      rw [show i = I 1 by omega]
      exact kk
    · exfalso; omega
  | succ n ih =>
    intro i s h1 h2 h3 hsl kk
    obtain ⟨jx, x1, x2, x3⟩ := hex i h2 (by omega)
    have hst := stA_spec (en := F 8) (i := i) 12 0 ⟨jx, x1, by omega, x3⟩
    have hs1 : stF (F 8) i ≤ jx := by
      rcases Int.lt_or_le jx (stF (F 8) i) with z | z
      · have := hst.2.2 jx x1 z
        omega
      · exact z
    have hss : s ≤ stF (F 8) i := by
      rcases Int.lt_or_le (stF (F 8) i) s with z | z
      · have e1 := hsl (stF (F 8) i) hst.1.1 z
        have e2 : i < F 8 (stF (F 8) i) := hst.2.1
        omega
      · exact z
    have hst0 : 0 ≤ stF (F 8) i := hst.1.1
    have hki := h7_ i h2 (by omega)
    have hcn := cntF_nn (F 7) (F 7 i) i
    have hcs := cntF_s (kn := F 7) (c := F 7 i) (i := i) h2
    rw [b2_t rfl] at hcs
    have hcm := cntF_mono (kn := F 7) (c := F 7 i) (i := i + 1) (by omega) n
    rw [show i + 1 + (n : Int) = I 1 by omega] at hcm
    have hsm := hsum (F 7 i) hki.1 hki.2
    have hok0 : okL (lotF (F 20) (F 7 i)) := fun l g1 g2 => h20 _ (by omega) (by omega)
    have htk := tk_ok hok0 (cntF (F 7) (F 7 i) i).toNat (by omega)
    have hix := ix_of htk.1 (by omega)
    refine w_iload b dX9_tie_101 rfl ?_
    refine w_aload_n b dX9_tie_103 rfl rfl ?_
    refine m_get (v := .int (iI (I 1))) b dX9_tie_104 lfX9_134 rfl ?_
    refine z_icmp_ge (tgt := 201) b dX9_tie_107 (by decide) (by omega) (fun c107 => ?_) (fun c107 => ?_)
    · exfalso; omega
    · refine z_bipush b dX9_tie_110 (by decide) ?_
      refine w_aload_n b dX9_tie_112 rfl rfl ?_
      refine m_get (v := .int (iI (I 21))) b dX9_tie_113 lfX9_71 rfl ?_
      refine z_imul b dX9_tie_116 ?_
      refine w_iload b dX9_tie_117 rfl ?_
      refine z_iadd b dX9_tie_119 ?_
      refine w_istore b dX9_tie_120 (tlt rfl) rfl ?_
      refine l_tie2 (F := tS F (lfF (F 20) (F 7) i) (exF (F 7) (40 * I 21) (i) (F 22)) (exF (F 7) (40 * I 21) (i) (F 23)) (exF (sdF (F 20) (F 19) (F 7)) (40 * I 21) (i) (F 24)) (exF (stF (F 8)) (40 * I 21) (i) (F 25))) b (s1 := stF (F 8) i) (by omega) (by omega) hst.2.1 hst.2.2 (fun j g1 g2 => in1000 (h8 j g1 (by omega))) (stF (F 8) i - s).toNat s (by omega) h3 ?_
      refine w_aload_n b dX9_tie_140 rfl rfl ?_
      refine m_get b dX9_tie_141 lfX9_74 rfl ?_
      refine w_iload b dX9_tie_144 rfl ?_
      refine w_aload_n b dX9_tie_146 rfl rfl ?_
      refine m_get b dX9_tie_147 lfX9_29 rfl ?_
      refine w_iload b dX9_tie_150 rfl ?_
      refine m_ald (v := F 7 i) b dX9_tie_152 rfl (by omega) rfl ?_
      refine m_ast b dX9_tie_153 rfl (by omega) ?_
      refine ww_cast (σ' := (mp mo h0 I (tS F (lfF (F 20) (F 7) (i)) (exF (F 7) (40 * I 21) (i + 1) (F 22)) (exF (F 7) (40 * I 21) (i) (F 23)) (exF (sdF (F 20) (F 19) (F 7)) (40 * I 21) (i) (F 24)) (exF (stF (F 8)) (40 * I 21) (i) (F 25))), nx)) rfl rfl (by rw [tS_22, ← exF_s (val := F 7) h2 rfl]; rfl) ?_
      refine w_aload_n b dX9_tie_154 rfl rfl ?_
      refine m_get b dX9_tie_155 lfX9_77 rfl ?_
      refine w_iload b dX9_tie_158 rfl ?_
      refine w_aload_n b dX9_tie_160 rfl rfl ?_
      refine m_get b dX9_tie_161 lfX9_29 rfl ?_
      refine w_iload b dX9_tie_164 rfl ?_
      refine m_ald (v := F 7 i) b dX9_tie_166 rfl (by omega) rfl ?_
      refine m_ast b dX9_tie_167 rfl (by omega) ?_
      refine ww_cast (σ' := (mp mo h0 I (tS F (lfF (F 20) (F 7) (i)) (exF (F 7) (40 * I 21) (i + 1) (F 22)) (exF (F 7) (40 * I 21) (i + 1) (F 23)) (exF (sdF (F 20) (F 19) (F 7)) (40 * I 21) (i) (F 24)) (exF (stF (F 8)) (40 * I 21) (i) (F 25))), nx)) rfl rfl (by rw [tS_23, ← exF_s (val := F 7) (f := F 23) h2 rfl]; rfl) ?_
      refine w_aload_n b dX9_tie_168 rfl rfl ?_
      refine m_get b dX9_tie_169 lfX9_80 rfl ?_
      refine w_iload b dX9_tie_172 rfl ?_
      refine w_aload_n b dX9_tie_174 rfl rfl ?_
      refine w_aload_n b dX9_tie_175 rfl rfl ?_
      refine m_get b dX9_tie_176 lfX9_29 rfl ?_
      refine w_iload b dX9_tie_179 rfl ?_
      refine m_ald (v := F 7 i) b dX9_tie_181 rfl (by omega) rfl ?_
      refine c_V1 (w := .int (iI (sdF (F 20) (F 19) (F 7) i))) b dX9_tie_182 lmX9_188 (mp_obj _ _ _ _) (k_X9_takeWool (I := I) (F := tS F (lfF (F 20) (F 7) i) (exF (F 7) (40 * I 21) (i + 1) (F 22)) (exF (F 7) (40 * I 21) (i + 1) (F 23)) (exF (sdF (F 20) (F 19) (F 7)) (40 * I 21) (i) (F 24)) (exF (stF (F 8)) (40 * I 21) (i) (F 25))) (c := F 7 i) (l1 := ixF (tkF (lotF (F 20) (F 7 i)) (cntF (F 7) (F 7 i) i).toNat)) hki hix.1 (fun j g1 g2 => by show lfF (F 20) (F 7) i (10 * F 7 i + j) = 0; rw [lfF_at hki (by omega)]; exact hix.2.2 j g1 g2) (by show ¬ lfF (F 20) (F 7) i (10 * F 7 i + _) = 0; rw [lfF_at hki hix.1]; exact hix.2.1) (lfF_rng h20 h7_ hsum (by omega))) (tle rfl) (by omega) (by omega) (by omega) ?_
      refine ww_cast (σ' := (mp mo h0 I (tS F (lfF (F 20) (F 7) (i + 1)) (exF (F 7) (40 * I 21) (i + 1) (F 22)) (exF (F 7) (40 * I 21) (i + 1) (F 23)) (exF (sdF (F 20) (F 19) (F 7)) (40 * I 21) (i) (F 24)) (exF (stF (F 8)) (40 * I 21) (i) (F 25))), nx)) rfl rfl (by rw [tS_20, ← lfF_s h2 hki rfl hix.1]; rfl) ?_
      refine m_ast b dX9_tie_185 rfl (by omega) ?_
      refine ww_cast (σ' := (mp mo h0 I (tS F (lfF (F 20) (F 7) (i + 1)) (exF (F 7) (40 * I 21) (i + 1) (F 22)) (exF (F 7) (40 * I 21) (i + 1) (F 23)) (exF (sdF (F 20) (F 19) (F 7)) (40 * I 21) (i + 1) (F 24)) (exF (stF (F 8)) (40 * I 21) (i) (F 25))), nx)) rfl rfl (by rw [tS_24, ← exF_s (val := sdF (F 20) (F 19) (F 7)) (f := F 24) h2 rfl]; rfl) ?_
      refine w_aload_n b dX9_tie_186 rfl rfl ?_
      refine m_get b dX9_tie_187 lfX9_83 rfl ?_
      refine w_iload b dX9_tie_190 rfl ?_
      refine w_iload b dX9_tie_192 rfl ?_
      refine m_ast b dX9_tie_194 rfl (by omega) ?_
      refine ww_cast (σ' := (mp mo h0 I (tS F (lfF (F 20) (F 7) (i + 1)) (exF (F 7) (40 * I 21) (i + 1) (F 22)) (exF (F 7) (40 * I 21) (i + 1) (F 23)) (exF (sdF (F 20) (F 19) (F 7)) (40 * I 21) (i + 1) (F 24)) (exF (stF (F 8)) (40 * I 21) (i + 1) (F 25))), nx)) rfl rfl (by rw [tS_25, ← exF_s (val := stF (F 8)) (f := F 25) h2 rfl]; rfl) ?_
      refine z_iinc b dX9_tie_195 rfl rfl rfl ?_
      refine w_goto (tgt := 101) b dX9_tie_198 (by decide) ?_
      refine ww_forget 6 ?_
      exact ih (i + 1) (stF (F 8) i) (by omega) (by omega) hst0 (fun j g1 g2 => by have := hst.2.2 j g1 g2; omega) kk
