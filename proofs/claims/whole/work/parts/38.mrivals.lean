/-! THE REFERENCE: rivals (by p38.py) -/
/-- the pairs of villages: first ones, other ones, how many -/
def ppB (a : Int) : Nat → Int → (Int → Int) × (Int → Int) × Int → (Int → Int) × (Int → Int) × Int
  | 0, _, p => p
  | n + 1, c, p => ppB a n (c + 1) (fu p.1 p.2.2 a, fu p.2.1 p.2.2 c, p.2.2 + 1)
def ppA (v : Int) : Nat → Int → (Int → Int) × (Int → Int) × Int → (Int → Int) × (Int → Int) × Int
  | 0, _, p => p
  | n + 1, a, p => ppA v n (a + 1) (ppB a (v - (a + 1)).toNat (a + 1) p)
theorem ppB_n (a : Int) : ∀ (n : Nat) (c : Int) (p : (Int → Int) × (Int → Int) × Int), (ppB a n c p).2.2 = p.2.2 + n := by
  intro n
  induction n with
  | zero => intro c p; simp [ppB]
  | succ n ih =>
    intro c p
    unfold ppB
    rw [ih]
    show p.2.2 + 1 + (n : Int) = _
    omega
/-- bits that are set: n at most -/
def mcA : Nat → Int → Int → Int
  | 0, _, m => m
  | n + 1, x, m => if x ≤ 0 then m else mcA n (x / 2) (m + x % 2)
def pF (F : Nat → Int → Int) (p : (Int → Int) × (Int → Int) × Int) : Nat → Int → Int := va_up (va_up F 33 p.1) 34 p.2.1
theorem pF_s (F : Nat → Int → Int) (p : (Int → Int) × (Int → Int) × Int) (a c : Int) : va_up (va_up (pF F p) 33 (fu p.1 p.2.2 a)) 34 (fu p.2.1 p.2.2 c) = pF F (fu p.1 p.2.2 a, fu p.2.1 p.2.2 c, p.2.2 + 1) := by
  funext j
  unfold pF va_up
  (repeat' split) <;> first | rfl | omega
theorem pF_self (F : Nat → Int → Int) (n : Int) : pF F (F 33, F 34, n) = F := by
  funext j
  unfold pF va_up
  (repeat' split) <;> simp [*]
set_option maxRecDepth 20000 in
theorem l_pp1 {X : Cx} {l0 : Launch} {g : Gw} {Z : State → Prop} {mo nx : Nat} {h0 : Nat → va_E} {I : Nat → Int} {F : Nat → Int → Int} (b : BX X l0 g mX9_rivals 3 0 0) {sum a : Int} (h27 : 0 ≤ I 27 ∧ I 27 ≤ 6) : ∀ (n : Nat) (c : Int) (p : (Int → Int) × (Int → Int) × Int), (c + n = I 27) → (0 ≤ c) → (0 ≤ p.2.2 ∧ p.2.2 + n ≤ 15) → WW X g mX9_rivals.2.2.1 Z 0 0 81 [some (.ref mo), some (.int (iI (sum))), some (.int (iI ((ppB a n c p).2.2))), some (.int (iI (a))), none, none, none] [] (mp mo h0 I (pF F (ppB a n c p)), nx) → WW X g mX9_rivals.2.2.1 Z 0 0 48 [some (.ref mo), some (.int (iI (sum))), some (.int (iI (p.2.2))), some (.int (iI (a))), some (.int (iI (c))), none, none] [] (mp mo h0 I (pF F (p)), nx) := by
  intro n
  induction n with
  | zero =>
    intro c p h1 h2 h3 kk
    refine w_iload b dX9_rivals_48 rfl ?_
    refine w_aload_n b dX9_rivals_50 rfl rfl ?_
    refine m_get (v := .int (iI (I 27))) b dX9_rivals_51 lfX9_89 rfl ?_
    refine z_icmp_ge (tgt := 81) b dX9_rivals_54 (by decide) (by omega) (fun c54 => ?_) (fun c54 => ?_)
    · refine ww_forget 4 ?_
      exact kk
    · exfalso; omega
  | succ n ih =>
    intro c p h1 h2 h3 kk
    refine w_iload b dX9_rivals_48 rfl ?_
    refine w_aload_n b dX9_rivals_50 rfl rfl ?_
    refine m_get (v := .int (iI (I 27))) b dX9_rivals_51 lfX9_89 rfl ?_
    refine z_icmp_ge (tgt := 81) b dX9_rivals_54 (by decide) (by omega) (fun c54 => ?_) (fun c54 => ?_)
    · exfalso; omega
    · refine w_aload_n b dX9_rivals_57 rfl rfl ?_
      refine m_get b dX9_rivals_58 lfX9_107 rfl ?_
      refine w_iload_n b dX9_rivals_61 rfl ?_
      refine w_iload_n b dX9_rivals_62 rfl ?_
      refine m_ast b dX9_rivals_63 rfl (by omega) ?_
      refine w_aload_n b dX9_rivals_64 rfl rfl ?_
      refine m_get b dX9_rivals_65 lfX9_110 rfl ?_
      refine w_iload_n b dX9_rivals_68 rfl ?_
      refine w_iload b dX9_rivals_69 rfl ?_
      refine m_ast b dX9_rivals_71 rfl (by omega) ?_
      refine ww_cast (σ' := (mp mo h0 I (pF F (fu p.1 p.2.2 a, fu p.2.1 p.2.2 c, p.2.2 + 1)), nx)) rfl rfl (by rw [← pF_s]; rfl) ?_
      refine z_iinc b dX9_rivals_72 rfl rfl rfl ?_
      refine z_iinc b dX9_rivals_75 rfl rfl rfl ?_
      refine w_goto (tgt := 48) b dX9_rivals_78 (by decide) ?_
      exact ih (c + 1) (fu p.1 p.2.2 a, fu p.2.1 p.2.2 c, p.2.2 + 1) (by omega) (by omega) (by show 0 ≤ p.2.2 + 1 ∧ p.2.2 + 1 + (n : Int) ≤ 15; omega) kk
set_option maxRecDepth 20000 in
theorem l_pp2 {X : Cx} {l0 : Launch} {g : Gw} {Z : State → Prop} {mo nx : Nat} {h0 : Nat → va_E} {I : Nat → Int} {F : Nat → Int → Int} (b : BX X l0 g mX9_rivals 3 0 0) {sum : Int} (h27 : 0 ≤ I 27 ∧ I 27 ≤ 6) : ∀ (n : Nat) (a : Int) (p : (Int → Int) × (Int → Int) × Int), (a + n = I 27) → (0 ≤ a) → (0 ≤ p.2.2 ∧ 2 * p.2.2 ≤ a * (11 - a)) → WW X g mX9_rivals.2.2.1 Z 0 0 87 [some (.ref mo), some (.int (iI (sum))), some (.int (iI ((ppA (I 27) n a p).2.2))), none, none, none, none] [] (mp mo h0 I (pF F (ppA (I 27) n a p)), nx) → WW X g mX9_rivals.2.2.1 Z 0 0 35 [some (.ref mo), some (.int (iI (sum))), some (.int (iI (p.2.2))), some (.int (iI (a))), none, none, none] [] (mp mo h0 I (pF F (p)), nx) := by
  intro n
  induction n with
  | zero =>
    intro a p h1 h2 h3 kk
    refine w_iload_n b dX9_rivals_35 rfl ?_
    refine w_aload_n b dX9_rivals_36 rfl rfl ?_
    refine m_get (v := .int (iI (I 27))) b dX9_rivals_37 lfX9_89 rfl ?_
    refine z_icmp_ge (tgt := 87) b dX9_rivals_40 (by decide) (by omega) (fun c40 => ?_) (fun c40 => ?_)
    · refine ww_forget 3 ?_
      exact kk
    · exfalso; omega
  | succ n ih =>
    intro a p h1 h2 h3 kk
    have h15 : p.2.2 + (I 27 - (a + 1)) ≤ 15 ∧ 2 * (p.2.2 + (I 27 - (a + 1))) ≤ (a + 1) * (11 - (a + 1)) := by
      rcases (show a = 0 ∨ a = 1 ∨ a = 2 ∨ a = 3 ∨ a = 4 ∨ a = 5 by omega) with rfl | rfl | rfl | rfl | rfl | rfl <;> omega
    refine w_iload_n b dX9_rivals_35 rfl ?_
    refine w_aload_n b dX9_rivals_36 rfl rfl ?_
    refine m_get (v := .int (iI (I 27))) b dX9_rivals_37 lfX9_89 rfl ?_
    refine z_icmp_ge (tgt := 87) b dX9_rivals_40 (by decide) (by omega) (fun c40 => ?_) (fun c40 => ?_)
    · exfalso; omega
    · refine w_iload_n b dX9_rivals_43 rfl ?_
      refine z_iconst b dX9_rivals_44 ?_
      refine z_iadd b dX9_rivals_45 ?_
      refine w_istore b dX9_rivals_46 (tlt rfl) rfl ?_
      refine l_pp1 b h27 (I 27 - (a + 1)).toNat (a + 1) p (by omega) (by omega) (by omega) ?_
      refine z_iinc b dX9_rivals_81 rfl rfl rfl ?_
      refine w_goto (tgt := 35) b dX9_rivals_84 (by decide) ?_
      exact ih (a + 1) _ (by omega) (by omega) (by rw [ppB_n]; omega) kk
set_option maxRecDepth 20000 in
theorem l_mc {X : Cx} {l0 : Launch} {g : Gw} {Z : State → Prop} {mo nx : Nat} {h0 : Nat → va_E} {I : Nat → Int} {F : Nat → Int → Int} (b : BX X l0 g mX9_rivals 3 0 0) {sum ps r set : Int}  : ∀ (n : Nat) (x m : Int), (0 ≤ x ∧ x < 2 ^ n) → (x < 32768) → WW X g mX9_rivals.2.2.1 Z 0 0 130 [some (.ref mo), some (.int (iI (sum))), some (.int (iI (ps))), some (.int (iI (r))), some (.int (iI (set))), some (.int (iI (mcA n x m))), none] [] (mp mo h0 I F, nx) → WW X g mX9_rivals.2.2.1 Z 0 0 107 [some (.ref mo), some (.int (iI (sum))), some (.int (iI (ps))), some (.int (iI (r))), some (.int (iI (set))), some (.int (iI (m))), some (.int (iI (x)))] [] (mp mo h0 I F, nx) := by
  intro n
  induction n with
  | zero =>
    intro x m h1 h2 kk
    refine w_iload b dX9_rivals_107 rfl ?_
    refine z_if_le (tgt := 130) b dX9_rivals_109 (by decide) (by omega) (fun c109 => ?_) (fun c109 => ?_)
    · refine ww_forget 6 ?_
      exact kk
    · exfalso; omega
  | succ n ih =>
    intro x m h1 h2 kk
    refine w_iload b dX9_rivals_107 rfl ?_
    refine z_if_le (tgt := 130) b dX9_rivals_109 (by decide) (by omega) (fun c109 => ?_) (fun c109 => ?_)
    · refine ww_forget 6 ?_
      have e1 : mcA (n + 1) x m = m := by unfold mcA; exact if_pos c109
      rw [e1] at kk
      exact kk
    · have e1 : mcA (n + 1) x m = mcA n (x / 2) (m + x % 2) := by
        conv => lhs; unfold mcA
        exact if_neg c109
      rw [e1] at kk
      refine w_iload b dX9_rivals_112 rfl ?_
      refine w_iload b dX9_rivals_114 rfl ?_
      refine z_iconst b dX9_rivals_116 ?_
      refine z_iand1 b dX9_rivals_117 (by omega) ?_
      refine z_iadd b dX9_rivals_118 ?_
      refine w_istore b dX9_rivals_119 (tlt rfl) rfl ?_
      refine w_iload b dX9_rivals_121 rfl ?_
      refine z_iconst b dX9_rivals_123 ?_
      refine z_ishr b dX9_rivals_124 (by omega) ?_
      refine ww_cast (st' := [.int (iI (x / 2))]) rfl rfl rfl ?_
      refine w_istore b dX9_rivals_125 (tlt rfl) rfl ?_
      refine w_goto (tgt := 107) b dX9_rivals_127 (by decide) ?_
      exact ih (x / 2) (m + x % 2) (by rw [Int.pow_succ] at h1; omega) (by omega) kk
theorem mcA_rng : ∀ (n : Nat) (x m : Int), 0 ≤ m → m ≤ mcA n x m ∧ mcA n x m ≤ m + n := by
  intro n
  induction n with
  | zero => intro x m _; simp [mcA]
  | succ n ih =>
    intro x m hm
    unfold mcA
    split
    · omega
    · have := ih (x / 2) (m + x % 2) (by omega)
      omega
/-- the sets from set on: how many are trees of the sum, the groups behind it -/
def rvA (W A B : Int → Int) (v : Nat) (ps sum : Int) : Nat → Int → Int → (Int → Int) → Int × (Int → Int)
  | 0, _, r, g => (r, g)
  | n + 1, set, r, g => if mcA 15 set 0 = (v : Int) - 1 then rvA W A B v ps sum n (set + 1) (r + (itA W A B set v ps.toNat 0 sum (idA v 0 g)).1) (itA W A B set v ps.toNat 0 sum (idA v 0 g)).2 else rvA W A B v ps sum n (set + 1) r g
theorem itA_01 (W A B : Int → Int) (set : Int) (v : Nat) : ∀ (n : Nat) (p l : Int) (g : Int → Int), (itA W A B set v n p l g).1 = 0 ∨ (itA W A B set v n p l g).1 = 1 := by
  intro n
  induction n with
  | zero => intro p l g; exact b2_01 _
  | succ n ih =>
    intro p l g
    unfold itA
    split
    · exact ih _ _ _
    · split
      · exact Or.inl rfl
      · exact ih _ _ _
set_option maxRecDepth 20000 in
theorem l_rv {X : Cx} {l0 : Launch} {g : Gw} {Z : State → Prop} {mo nx : Nat} {h0 : Nat → va_E} {I : Nat → Int} {F : Nat → Int → Int} (b : BX X l0 g mX9_rivals 3 0 0) {sum ps : Int} (h27 : 1 ≤ I 27 ∧ I 27 ≤ 6) (h30 : ∀ j, 0 ≤ j → j < 8 → 0 ≤ F 30 j ∧ F 30 j < 2 ^ 8) (hps : 0 ≤ ps ∧ ps ≤ 15) (h33 : ∀ j, 0 ≤ j → j < ps → 0 ≤ F 33 j ∧ F 33 j < I 27) (h34 : ∀ j, 0 ≤ j → j < ps → 0 ≤ F 34 j ∧ F 34 j < I 27) (hsum : 0 ≤ sum ∧ sum ≤ 1000) (hpw : (2 : Int) ^ ps.toNat ≤ 32768) : ∀ (n : Nat) (set r : Int) (gr : Int → Int), (set + n = 2 ^ ps.toNat) → (0 ≤ set) → (0 ≤ r) → WW X g mX9_rivals.2.2.1 Z 0 0 166 [some (.ref mo), some (.int (iI (sum))), some (.int (iI (ps))), some (.int (iI ((rvA (F 30) (F 33) (F 34) (I 27).toNat ps sum n set r gr).1))), none, none, none] [] (mp mo h0 I (va_up F 31 ((rvA (F 30) (F 33) (F 34) (I 27).toNat ps sum n set r gr).2)), nx) → WW X g mX9_rivals.2.2.1 Z 0 0 92 [some (.ref mo), some (.int (iI (sum))), some (.int (iI (ps))), some (.int (iI (r))), some (.int (iI (set))), none, none] [] (mp mo h0 I (va_up F 31 (gr)), nx) := by
  intro n
  induction n with
  | zero =>
    intro set r gr h1 h2 h3 kk
    refine w_iload b dX9_rivals_92 rfl ?_
    refine z_iconst b dX9_rivals_94 ?_
    refine w_iload_n b dX9_rivals_95 rfl ?_
    refine z_ishl1 b dX9_rivals_96 (by omega) ?_
    refine z_icmp_ge (tgt := 166) b dX9_rivals_97 (by decide) (by omega) (fun c97 => ?_) (fun c97 => ?_)
    · refine ww_forget 4 ?_
      exact kk
    · exfalso; omega
  | succ n ih =>
    intro set r gr h1 h2 h3 kk
    have hbt := mcA_rng 15 set 0 (by omega)
    refine w_iload b dX9_rivals_92 rfl ?_
    refine z_iconst b dX9_rivals_94 ?_
    refine w_iload_n b dX9_rivals_95 rfl ?_
    refine z_ishl1 b dX9_rivals_96 (by omega) ?_
    refine z_icmp_ge (tgt := 166) b dX9_rivals_97 (by decide) (by omega) (fun c97 => ?_) (fun c97 => ?_)
    · exfalso; omega
    · refine z_iconst b dX9_rivals_100 ?_
      refine w_istore b dX9_rivals_101 (tlt rfl) rfl ?_
      refine w_iload b dX9_rivals_103 rfl ?_
      refine w_istore b dX9_rivals_105 (tlt rfl) rfl ?_
      refine l_mc b 15 set 0 (by omega) (by omega) ?_
      refine w_iload_n b dX9_rivals_130 rfl ?_
      refine w_iload b dX9_rivals_131 rfl ?_
      refine w_aload_n b dX9_rivals_133 rfl rfl ?_
      refine m_get (v := .int (iI (I 27))) b dX9_rivals_134 lfX9_89 rfl ?_
      refine z_iconst b dX9_rivals_137 ?_
      refine z_isub b dX9_rivals_138 ?_
      refine z_icmp_ne (tgt := 157) b dX9_rivals_139 (by decide) (by omega) (fun c139 => ?_) (fun c139 => ?_)
      · have e1 : rvA (F 30) (F 33) (F 34) (I 27).toNat ps sum (n + 1) set r gr = rvA (F 30) (F 33) (F 34) (I 27).toNat ps sum n (set + 1) r gr := by
          conv => lhs; unfold rvA
          rw [if_neg (by omega)]
        rw [e1] at kk
        refine z_iconst b dX9_rivals_157 ?_
        refine z_iadd b dX9_rivals_158 ?_
        refine w_istore_n b dX9_rivals_159 (tlt rfl) rfl ?_
        refine z_iinc b dX9_rivals_160 rfl rfl rfl ?_
        refine w_goto (tgt := 92) b dX9_rivals_163 (by decide) ?_
        refine ww_cast (L' := [some (.ref mo), some (.int (iI sum)), some (.int (iI ps)), some (.int (iI r)), some (.int (iI (set + 1))), _, none]) (by rw [Int.add_zero]; rfl) rfl rfl ?_
        refine ww_forget 5 ?_
        exact ih (set + 1) (r) gr (by omega) (by omega) (by omega) kk
      · refine w_aload_n b dX9_rivals_142 rfl rfl ?_
        refine w_iload b dX9_rivals_143 rfl ?_
        refine w_iload_n b dX9_rivals_145 rfl ?_
        refine w_iload_n b dX9_rivals_146 rfl ?_
        refine c_V3 (w := .int (iI (itA (F 30) (F 33) (F 34) set (I 27).toNat ps.toNat 0 sum (idA (I 27).toNat 0 gr)).1)) b dX9_rivals_147 lmX9_215 (mp_obj _ _ _ _) (k_X9_isTree (I := I) (F := va_up F 31 gr) (by omega) h30 (by omega) hps h33 h34 hsum) (tle rfl) (by omega) (by omega) (by omega) ?_
        refine ww_cast (σ' := (mp mo h0 I (va_up F 31 ((itA (F 30) (F 33) (F 34) set (I 27).toNat ps.toNat 0 sum (idA (I 27).toNat 0 gr)).2)), nx)) rfl rfl (by rw [va_up_twice]; rfl) ?_
        refine z_if_eq (tgt := 157) b dX9_rivals_150 (by decide) (by have := itA_01 (F 30) (F 33) (F 34) set (I 27).toNat ps.toNat 0 sum (idA (I 27).toNat 0 gr); omega) (fun hit0 => ?_) (fun hit0 => ?_)
        · have hit : (itA (F 30) (F 33) (F 34) set (I 27).toNat ps.toNat 0 sum (idA (I 27).toNat 0 gr)).1 = 0 := hit0
          have e1 : rvA (F 30) (F 33) (F 34) (I 27).toNat ps sum (n + 1) set r gr = rvA (F 30) (F 33) (F 34) (I 27).toNat ps sum n (set + 1) (r + 0) (itA (F 30) (F 33) (F 34) set (I 27).toNat ps.toNat 0 sum (idA (I 27).toNat 0 gr)).2 := by
            conv => lhs; unfold rvA
            rw [if_pos (by omega), hit]
          rw [e1] at kk
          refine z_iconst b dX9_rivals_157 ?_
          refine z_iadd b dX9_rivals_158 ?_
          refine w_istore_n b dX9_rivals_159 (tlt rfl) rfl ?_
          refine z_iinc b dX9_rivals_160 rfl rfl rfl ?_
          refine w_goto (tgt := 92) b dX9_rivals_163 (by decide) ?_
          refine ww_forget 5 ?_
          exact ih (set + 1) (_) _ (by omega) (by omega) (by omega) kk
        · have hit : (itA (F 30) (F 33) (F 34) set (I 27).toNat ps.toNat 0 sum (idA (I 27).toNat 0 gr)).1 = 1 := by have := itA_01 (F 30) (F 33) (F 34) set (I 27).toNat ps.toNat 0 sum (idA (I 27).toNat 0 gr); omega
          have e1 : rvA (F 30) (F 33) (F 34) (I 27).toNat ps sum (n + 1) set r gr = rvA (F 30) (F 33) (F 34) (I 27).toNat ps sum n (set + 1) (r + 1) (itA (F 30) (F 33) (F 34) set (I 27).toNat ps.toNat 0 sum (idA (I 27).toNat 0 gr)).2 := by
            conv => lhs; unfold rvA
            rw [if_pos (by omega), hit]
          rw [e1] at kk
          refine z_iconst b dX9_rivals_153 ?_
          refine w_goto (tgt := 158) b dX9_rivals_154 (by decide) ?_
          refine z_iadd b dX9_rivals_158 ?_
          refine w_istore_n b dX9_rivals_159 (tlt rfl) rfl ?_
          refine z_iinc b dX9_rivals_160 rfl rfl rfl ?_
          refine w_goto (tgt := 92) b dX9_rivals_163 (by decide) ?_
          refine ww_forget 5 ?_
          exact ih (set + 1) (_) _ (by omega) (by omega) (by omega) kk
