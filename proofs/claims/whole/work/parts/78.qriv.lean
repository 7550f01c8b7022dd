/-! THE CLASS: rivals (by p78.py) -/
theorem zn_rng {a b : Int} (ha : 0 ≤ a) : 0 ≤ zn a b ∧ zn a b ≤ a := by
  have h := Nat.and_le_left (n := a.toNat) (m := b.toNat)
  unfold zn
  omega
theorem pow_v {v : Int} (h : 0 ≤ v ∧ v < 6) : 1 ≤ (2 : Int) ^ v.toNat ∧ (2 : Int) ^ v.toNat ≤ 32 := by
  rcases (show v = 0 ∨ v = 1 ∨ v = 2 ∨ v = 3 ∨ v = 4 ∨ v = 5 by omega) with z | z | z | z | z | z <;> (rw [z]; decide)
/-- least sums and how many trees have them, of each set of villages -/
abbrev SP : Type := (Int → Int) × (Int → Int)
def adT (set ts tr : Int) (p : SP) : SP := if ts < p.1 set then (fu p.1 set ts, fu (fu p.2 set 0) set (fu p.2 set 0 set + tr)) else if ts = p.1 set then (p.1, fu p.2 set (p.2 set + tr)) else p
def lbA (W : Int → Int) (set root br ps pt : Int) : Nat → Int → SP → SP
  | 0, _, p => p
  | n + 1, v, p => lbA W set root br ps pt n (v + 1) (if zn br (2 ^ v.toNat) = 0 then p else adT set (ps + apF (W root) (W v)) pt p)
def lbF (W : Int → Int) (set root br : Int) (p : SP) : SP := lbA W set root br (p.1 br + p.1 (set - br)) (p.2 br * p.2 (set - br)) 6 0 p
def foA (set : Int) : Nat → Int → Int
  | 0, _ => 0
  | n + 1, v => if zn set (2 ^ v.toNat) = 0 then foA set n (v + 1) else v
def spA (W : Int → Int) (set root rest nxt : Int) : Nat → Int → SP → SP
  | 0, _, p => p
  | n + 1, br, p => spA W set root rest nxt n (br + 1) (if zn br rest = br ∧ ¬ zn br nxt = 0 then lbF W set root br p else p)
def spF (W : Int → Int) (set root : Int) (p : SP) : SP := spA W set root (set - 2 ^ root.toNat) (2 ^ (foA (set - 2 ^ root.toNat) 6 0).toNat) (set - 2 ^ root.toNat + 1 - 2 ^ (foA (set - 2 ^ root.toNat) 6 0).toNat).toNat (2 ^ (foA (set - 2 ^ root.toNat) 6 0).toNat) (fu p.1 set 64, fu p.2 set 0)
def rtS (W : Int → Int) (set : Int) (p : SP) : SP := if bcF set ≤ 1 then (fu p.1 set 0, fu p.2 set 1) else spF W set (foA set 6 0) (fu p.1 set 0, fu p.2 set 1)
def rtA (W : Int → Int) : Nat → Int → SP → SP
  | 0, _, p => p
  | n + 1, set, p => rtA W n (set + 1) (rtS W set p)
def SB (p : SP) : Prop := ∀ j, 0 ≤ j → j < 64 → 0 ≤ p.1 j ∧ p.1 j ≤ 64
theorem SB_fu {p : SP} {s x : Int} {t : Int → Int} (h : SB p) (hx : 0 ≤ x ∧ x ≤ 64) : SB (fu p.1 s x, t) := fun j g1 g2 => by
  show 0 ≤ fu p.1 s x j ∧ fu p.1 s x j ≤ 64
  by_cases q : j = s
  · rw [q, fu_s]; exact hx
  · rw [fu_n q]; exact h j g1 g2
theorem SB_ad {p : SP} {set ts tr : Int} (h : SB p) (hs : 0 ≤ set ∧ set < 64) (ht : 0 ≤ ts) : SB (adT set ts tr p) := by
  unfold adT
  have h1 := h set hs.1 hs.2
  split
  · exact SB_fu h (by omega)
  · split
    · exact fun j g1 g2 => h j g1 g2
    · exact h
theorem SB_lb {W : Int → Int} {set root br ps pt : Int} (hs : 0 ≤ set ∧ set < 64) (hp : 0 ≤ ps) : ∀ (n : Nat) (v : Int) (p : SP), SB p → SB (lbA W set root br ps pt n v p) := by
  intro n
  induction n with
  | zero => intro v p h; exact h
  | succ n ih =>
    intro v p h
    refine ih (v + 1) _ ?_
    split
    · exact h
    · exact SB_ad h hs (by have := apF_rng (W root) (W v); omega)
theorem SB_lbF {W : Int → Int} {set root br : Int} {p : SP} (hs : 0 ≤ set ∧ set < 64) (hb : 0 ≤ br ∧ br ≤ set) (h : SB p) : SB (lbF W set root br p) := by
  have h1 := h br (by omega) (by omega)
  have h2 := h (set - br) (by omega) (by omega)
  exact SB_lb hs (by omega) 6 0 p h
theorem SB_sp {W : Int → Int} {set root rest nxt : Int} (hs : 0 ≤ set ∧ set < 64) (hr : rest ≤ set) : ∀ (n : Nat) (br : Int) (p : SP), 0 ≤ br → br + n ≤ rest + 1 → SB p → SB (spA W set root rest nxt n br p) := by
  intro n
  induction n with
  | zero => intro br p _ _ h; exact h
  | succ n ih =>
    intro br p h1 h2 h
    refine ih (br + 1) _ (by omega) (by omega) ?_
    split
    · exact SB_lbF hs (by omega) h
    · exact h
theorem fo_rng (set : Int) : ∀ (n : Nat) (v : Int), 0 ≤ v → v + n = 6 → 0 ≤ foA set n v ∧ foA set n v < 6 := by
  intro n
  induction n with
  | zero => intro v _ _; exact ⟨Int.le_refl 0, (by decide : (0 : Int) < 6)⟩
  | succ n ih =>
    intro v h1 h2
    unfold foA
    split
    · exact ih (v + 1) (by omega) (by omega)
    · omega
theorem fo_tab : ∀ n : Fin 64, (2 : Int) ^ (foA (n.val : Int) 6 0).toNat ≤ (n.val : Int) + 1 ∧ (0 < n.val → (2 : Int) ^ (foA (n.val : Int) 6 0).toNat ≤ (n.val : Int)) := by decide +kernel
theorem fo_le {x : Int} (h : 0 ≤ x ∧ x < 64) : (2 : Int) ^ (foA x 6 0).toNat ≤ x + 1 ∧ (0 < x → (2 : Int) ^ (foA x 6 0).toNat ≤ x) := by
  obtain ⟨n, rfl⟩ := Int.eq_ofNat_of_zero_le h.1
  have := fo_tab ⟨n, by omega⟩
  exact ⟨this.1, fun q => this.2 (by show 0 < n; omega)⟩
theorem SB_spF {W : Int → Int} {set root : Int} {p : SP} (hs : 0 ≤ set ∧ set < 64) (hr : 0 ≤ root) (hr2 : (2 : Int) ^ root.toNat ≤ set) (h : SB p) : SB (spF W set root p) := by
  have h1 : (0 : Int) ≤ 2 ^ root.toNat := Int.pow_nonneg (by decide)
  have h2 := fo_rng (set - 2 ^ root.toNat) 6 0 (by omega) (by omega)
  have h3 := pow_v h2
  have h4 := (fo_le (x := set - 2 ^ root.toNat) (by omega)).1
  exact SB_sp hs (by omega) _ _ _ (by omega) (by omega) (SB_fu h (by omega))
theorem SB_rt {W : Int → Int} {set : Int} {p : SP} (hs : 0 < set ∧ set < 64) (h : SB p) : SB (rtS W set p) := by
  unfold rtS
  split
  · exact SB_fu h (by omega)
  · have h2 := fo_rng set 6 0 (by omega) (by omega)
    exact SB_spF (by omega) h2.1 ((fo_le (x := set) (by omega)).2 (by omega)) (SB_fu h (by omega))
def rvS (A : Nat → Int → Int) (p : SP) : Nat → Int → Int := va_up (va_up A 237 p.1) 238 p.2
theorem rvS_1 (A : Nat → Int → Int) (p : SP) (s : Int → Int) : va_up (rvS A p) 237 s = rvS A (s, p.2) := by
  funext j
  unfold rvS va_up
  (repeat' split) <;> first | rfl | omega
theorem rvS_2 (A : Nat → Int → Int) (p : SP) (s : Int → Int) : va_up (rvS A p) 238 s = rvS A (p.1, s) := by
  funext j
  unfold rvS va_up
  (repeat' split) <;> first | rfl | omega
theorem rvS_0 (A : Nat → Int → Int) : rvS A (A 237, A 238) = A := by
  funext j
  unfold rvS va_up
  (repeat' split) <;> first | rfl | (rename_i z; rw [z]) | (rename_i z _; rw [z])
set_option maxRecDepth 20000 in
theorem l_X6_firstOf {X : Cx} {l0 : Launch} {g : Gw} {Q : Option Value → Sg → Prop} (b : BX X l0 g mX6_firstOf 0 0 0) {s : Int} {σ : Sg} (hs : 0 ≤ s ∧ s < 64) : ∀ (n : Nat) (v : Int), (v + n = 6) → (0 ≤ v) → Q (some (.int (iI (foA s n v)))) σ → WW X g mX6_firstOf.2.2.1 (ZQ X g Q 0 0) 0 0 2 [some (.int (iI (s))), some (.int (iI (v)))] [] σ := by
  intro n
  induction n with
  | zero =>
    intro v h1 h2 hq
    refine w_iload_n b dX6_firstOf_2 rfl ?_
    refine z_bipush b dX6_firstOf_3 (by decide) ?_
    refine z_icmp_ge (tgt := 24) b dX6_firstOf_5 (by decide) (by omega) (fun c5 => ?_) (fun c5 => ?_)
    · refine z_iconst b dX6_firstOf_24 ?_
      exact w_iret b dX6_firstOf_25 rfl (by omega) (by omega) hq
    · exfalso; omega
  | succ n ih =>
    intro v h1 h2 hq
    refine w_iload_n b dX6_firstOf_2 rfl ?_
    refine z_bipush b dX6_firstOf_3 (by decide) ?_
    refine z_icmp_ge (tgt := 24) b dX6_firstOf_5 (by decide) (by omega) (fun c5 => ?_) (fun c5 => ?_)
    · exfalso; omega
    · refine w_iload_n b dX6_firstOf_8 rfl ?_
      have hz := zn_rng (b := 2 ^ v.toNat) hs.1
      have hp := pow_v (v := v) (by omega)
      refine z_iconst b dX6_firstOf_9 ?_
      refine w_iload_n b dX6_firstOf_10 rfl ?_
      refine z_ishl1 b dX6_firstOf_11 (by omega) ?_
      refine z_iand b dX6_firstOf_12 (by omega) ?_
      refine z_if_eq (tgt := 18) b dX6_firstOf_13 (by decide) (by omega) (fun c13 => ?_) (fun c13 => ?_)
      · have e1 : foA s (n + 1) v = foA s n (v + 1) := by
          conv => lhs; unfold foA
          exact if_pos c13
        rw [e1] at hq
        refine z_iinc b dX6_firstOf_18 rfl rfl rfl ?_
        refine w_goto (tgt := 2) b dX6_firstOf_21 (by decide) ?_
        exact ih (v + 1) (by omega) (by omega) hq
      · have e1 : foA s (n + 1) v = v := by
          unfold foA
          exact if_neg c13
        rw [e1] at hq
        refine w_iload_n b dX6_firstOf_16 rfl ?_
        exact w_iret b dX6_firstOf_17 rfl (by omega) (by omega) hq
set_option maxRecDepth 20000 in
theorem k_X6_firstOf {l0 : Launch} {g : Gw} {σ : Sg} {s : Int} (hs : 0 ≤ s ∧ s < 64) : MD l0 g 0 mX6_firstOf σ [.int (iI (s))] 0 0 (some (.int (iI (foA s 6 0)))) σ := by
  refine MD.of (by decide +kernel) (by simp [Value.category]) (tle rfl) (fun X b => ?_)
  change WW X g _ _ 0 0 0 [some (.int (iI (s))), none] [] _
  refine z_iconst b dX6_firstOf_0 ?_
  refine w_istore_n b dX6_firstOf_1 (tlt rfl) rfl ?_
  exact l_X6_firstOf b hs 6 0 (by omega) (by omega) ⟨rfl, rfl⟩
set_option maxRecDepth 20000 in
theorem k_X6_addTrees {l0 : Launch} {g : Gw} {w nx : Nat} {h : Nat → va_E} {C : Nat → Nat → Int} {A : Nat → Int → Int} {V : Nat → Value} {s x y : Int} {p : SP} (hs : 0 ≤ s ∧ s < 64) (hx : 0 ≤ x ∧ x ≤ 1000) (hB : 0 ≤ p.1 s ∧ p.1 s ≤ 64) : MD l0 g 0 mX6_addTrees (cp w C (rvS A p) V h, nx) [.ref 234, .int (iI (s)), .int (iI (x)), .int (iI (y))] 0 0 (none) (cp w C (rvS A (adT s x y p)) V h, nx) := by
  refine MD.of (by decide +kernel) (by simp [Value.category]) (tle rfl) (fun X b => ?_)
  change WW X g _ _ 0 0 0 [some (.ref 234), some (.int (iI (s))), some (.int (iI (x))), some (.int (iI (y)))] [] _
  refine w_iload_n b dX6_addTrees_0 rfl ?_
  refine w_aload_n b dX6_addTrees_1 rfl rfl ?_
  refine q_get b dX6_addTrees_2 lfX6_18 (tlt rfl) ct_234 rfl ?_
  refine w_iload_n b dX6_addTrees_5 rfl ?_
  refine q_iald b dX6_addTrees_6 (tlt rfl) ct_237 (by omega) ?_
  refine y_top (y := p.1 s) rfl ?_
  refine z_icmp_ge (tgt := 24) b dX6_addTrees_7 (by decide) (by omega) (fun c7 => ?_) (fun c7 => ?_)
  · refine w_iload_n b dX6_addTrees_24 rfl ?_
    refine w_aload_n b dX6_addTrees_25 rfl rfl ?_
    refine q_get b dX6_addTrees_26 lfX6_18 (tlt rfl) ct_234 rfl ?_
    refine w_iload_n b dX6_addTrees_29 rfl ?_
    refine q_iald b dX6_addTrees_30 (tlt rfl) ct_237 (by omega) ?_
    refine y_top (y := p.1 s) rfl ?_
    refine z_icmp_ne (tgt := 44) b dX6_addTrees_31 (by decide) (by omega) (fun c31 => ?_) (fun c31 => ?_)
    · have e1 : adT s x y p = p := by
        unfold adT
        rw [if_neg (by omega), if_neg c31]
      rw [e1]
      exact w_vret b dX6_addTrees_44 rfl (by omega) (by omega) ⟨rfl, rfl⟩
    · refine w_aload_n b dX6_addTrees_34 rfl rfl ?_
      refine q_get b dX6_addTrees_35 lfX6_21 (tlt rfl) ct_234 rfl ?_
      refine w_iload_n b dX6_addTrees_38 rfl ?_
      refine w_dup2 b dX6_addTrees_39 rfl rfl ?_
      refine q_iald b dX6_addTrees_40 (tlt rfl) ct_238 (by omega) ?_
      refine y_top (y := p.2 s) rfl ?_
      refine w_iload_n b dX6_addTrees_41 rfl ?_
      refine z_iadd b dX6_addTrees_42 ?_
      refine q_iast b dX6_addTrees_43 (tlt rfl) (fun _ => ct_238) (by omega) ?_
      have e1 : adT s x y p = (p.1, fu p.2 s (p.2 s + y)) := by
        unfold adT
        rw [if_neg (by omega), if_pos c31]
      rw [e1]
      refine ww_cast (σ' := (cp w C (rvS A ((p.1, fu p.2 s (p.2 s + y)))) V h, nx)) rfl rfl (congrArg (fun z => (cp w C z V h, nx)) (rvS_2 A p _)) ?_
      exact w_vret b dX6_addTrees_44 rfl (by omega) (by omega) ⟨rfl, rfl⟩
  · refine w_aload_n b dX6_addTrees_10 rfl rfl ?_
    refine q_get b dX6_addTrees_11 lfX6_18 (tlt rfl) ct_234 rfl ?_
    refine w_iload_n b dX6_addTrees_14 rfl ?_
    refine w_iload_n b dX6_addTrees_15 rfl ?_
    refine q_iast b dX6_addTrees_16 (tlt rfl) (fun _ => ct_237) (by omega) ?_
    refine ww_cast (σ' := (cp w C (rvS A ((fu p.1 s x, p.2))) V h, nx)) rfl rfl (congrArg (fun z => (cp w C z V h, nx)) (rvS_1 A p _)) ?_
    refine w_aload_n b dX6_addTrees_17 rfl rfl ?_
    refine q_get b dX6_addTrees_18 lfX6_21 (tlt rfl) ct_234 rfl ?_
    refine w_iload_n b dX6_addTrees_21 rfl ?_
    refine z_iconst b dX6_addTrees_22 ?_
    refine q_iast b dX6_addTrees_23 (tlt rfl) (fun _ => ct_238) (by omega) ?_
    refine ww_cast (σ' := (cp w C (rvS A ((fu p.1 s x, fu p.2 s 0))) V h, nx)) rfl rfl (congrArg (fun z => (cp w C z V h, nx)) (rvS_2 A (fu p.1 s x, p.2) _)) ?_
    refine w_iload_n b dX6_addTrees_24 rfl ?_
    refine w_aload_n b dX6_addTrees_25 rfl rfl ?_
    refine q_get b dX6_addTrees_26 lfX6_18 (tlt rfl) ct_234 rfl ?_
    refine w_iload_n b dX6_addTrees_29 rfl ?_
    refine q_iald b dX6_addTrees_30 (tlt rfl) ct_237 (by omega) ?_
    refine y_top (y := x) (fu_s _ _ _) ?_
    refine z_icmp_ne (tgt := 44) b dX6_addTrees_31 (by decide) (by omega) (fun c31 => ?_) (fun c31 => ?_)
    · exact absurd rfl c31
    · refine w_aload_n b dX6_addTrees_34 rfl rfl ?_
      refine q_get b dX6_addTrees_35 lfX6_21 (tlt rfl) ct_234 rfl ?_
      refine w_iload_n b dX6_addTrees_38 rfl ?_
      refine w_dup2 b dX6_addTrees_39 rfl rfl ?_
      refine q_iald b dX6_addTrees_40 (tlt rfl) ct_238 (by omega) ?_
      refine y_top (y := fu p.2 s 0 s) rfl ?_
      refine w_iload_n b dX6_addTrees_41 rfl ?_
      refine z_iadd b dX6_addTrees_42 ?_
      refine q_iast b dX6_addTrees_43 (tlt rfl) (fun _ => ct_238) (by omega) ?_
      have e1 : adT s x y p = (fu p.1 s x, fu (fu p.2 s 0) s (fu p.2 s 0 s + y)) := by
        unfold adT
        rw [if_pos (by omega)]
      rw [e1]
      refine ww_cast (σ' := (cp w C (rvS A ((fu p.1 s x, fu (fu p.2 s 0) s (fu p.2 s 0 s + y)))) V h, nx)) rfl rfl (congrArg (fun z => (cp w C z V h, nx)) (rvS_2 A (fu p.1 s x, fu p.2 s 0) _)) ?_
      exact w_vret b dX6_addTrees_44 rfl (by omega) (by omega) ⟨rfl, rfl⟩
