/-! THE CLASS: a chant is sung (by p57.py) -/
/-- two states of a call that show the same -/
def agr (t t' : CS) : Prop := t.1 = t'.1 ∧ t.2.2 = t'.2.2 ∧ ∀ j, 0 ≤ j → j < t.1 → t.2.1 j = t'.2.1 j
section AGR
variable {I : Nat → Int} {F : Nat → Int → Int} {rec : Int → Int → CS → Option CS}
theorem sgS_agr (hrec : ∀ (c' w' : Int) (t t' t1 : CS), 0 ≤ c' → c' < I 2 → (0 ≤ t.1 ∧ t.1 ≤ 1000) → agr t t' → rec c' w' t = some t1 → ∃ t1', rec c' w' t' = some t1' ∧ agr t1 t1') (wf : wfC I F) {c base wide s : Int} {t t' t1 : CS} (hc : 0 ≤ c ∧ c < I 2) (hs : 0 ≤ s ∧ s < F 3 c) (hb : 0 ≤ base ∧ base ≤ t.1 ∧ t.1 ≤ 1000) (ha : agr t t') (h : sgS I F rec (12 * c + s) base wide t = some t1) : ∃ t1', sgS I F rec (12 * c + s) base wide t' = some t1' ∧ agr t1 t1' := by
  obtain ⟨w1, w2, w3, w4, w5⟩ := (wf c hc.1 hc.2).2 s hs.1 hs.2
  obtain ⟨a, f, n⟩ := t
  obtain ⟨a', f', n'⟩ := t'
  obtain ⟨e1, e2, e3⟩ := ha
  change a = a' at e1
  change n = n' at e2
  change ∀ j, 0 ≤ j → j < a → f j = f' j at e3
  change 0 ≤ base ∧ base ≤ a ∧ a ≤ 1000 at hb
  subst e1 e2
  unfold sgS at h ⊢
  change (if 1000 < n + 1 then none else _) = _ at h
  show ∃ t1', (if 1000 < n + 1 then none else _) = some t1' ∧ _
  by_cases g1 : 1000 < n + 1
  · rw [if_pos g1] at h; cases h
  · rw [if_neg g1] at h ⊢
    by_cases g2 : F 4 (12 * c + s) = 4
    · rw [if_pos g2] at h ⊢
      have := w4 g2
      exact hrec _ _ (a, f, n + 1) (a, f', n + 1) t1 (by omega) (by omega) (by show 0 ≤ a ∧ a ≤ 1000; omega) ⟨rfl, rfl, e3⟩ h
    · rw [if_neg g2] at h ⊢
      change (if a + amF (F 4 (12 * c + s)) (F 5 (12 * c + s)) (a - base) wide ≤ 1000 then _ else _) = _ at h
      show ∃ t1', (if a + amF (F 4 (12 * c + s)) (F 5 (12 * c + s)) (a - base) wide ≤ 1000 then _ else _) = some t1' ∧ _
      by_cases g3 : a + amF (F 4 (12 * c + s)) (F 5 (12 * c + s)) (a - base) wide ≤ 1000
      · rw [if_pos g3] at h ⊢
        cases h
        refine ⟨_, rfl, rfl, rfl, fun j h1 h2 => ?_⟩
        change j < a + amF (F 4 (12 * c + s)) (F 5 (12 * c + s)) (a - base) wide at h2
        show exF (vaF _ _ _ base a f) a (amF _ _ (a - base) wide) f j = exF (vaF _ _ _ base a f') a (amF _ _ (a - base) wide) f' j
        unfold exF
        by_cases g4 : a ≤ j
        · rw [if_pos ⟨g4, h2⟩, if_pos ⟨g4, h2⟩]
          unfold vaF
          split
          · rfl
          · split
            · have q : amF (F 4 (12 * c + s)) (F 5 (12 * c + s)) (a - base) wide = a - base := by unfold amF; rw [if_neg (by omega), if_pos (by omega)]
              exact e3 _ (by omega) (by omega)
            · split
              · have q : amF (F 4 (12 * c + s)) (F 5 (12 * c + s)) (a - base) wide = (a - base) * F 5 (12 * c + s) := by unfold amF; rw [if_neg (by omega), if_neg (by omega), if_pos (by omega)]
                have q2 : a - base ≠ 0 := by
                  intro z
                  have q5 : (a - base) * F 5 (12 * c + s) = 0 := by rw [z, Int.zero_mul]
                  omega
                have q3 := Int.emod_nonneg (j - a) q2
                have q4 := Int.emod_lt_of_pos (j - a) (show 0 < a - base by omega)
                exact e3 _ (by omega) (by omega)
              · rfl
        · rw [if_neg (by omega), if_neg (by omega)]
          exact e3 j h1 (by omega)
      · rw [if_neg g3] at h; cases h
theorem sgL_agr (hrec : ∀ (c' w' : Int) (t t' t1 : CS), 0 ≤ c' → c' < I 2 → (0 ≤ t.1 ∧ t.1 ≤ 1000) → agr t t' → rec c' w' t = some t1 → ∃ t1', rec c' w' t' = some t1' ∧ agr t1 t1') (hmono : ∀ (c' w' : Int) (t t1 : CS), 0 ≤ c' → c' < I 2 → t.1 ≤ 1000 → rec c' w' t = some t1 → t.1 ≤ t1.1 ∧ t1.1 ≤ 1000) (wf : wfC I F) {c base wide : Int} (hc : 0 ≤ c ∧ c < I 2) : ∀ (n : Nat) (s : Int) (t t' t1 : CS), (s + n = F 3 c ∧ 0 ≤ s) → (0 ≤ base ∧ base ≤ t.1 ∧ t.1 ≤ 1000) → agr t t' → sgL I F rec c base wide n s t = some t1 → ∃ t1', sgL I F rec c base wide n s t' = some t1' ∧ agr t1 t1' := by
  intro n
  induction n with
  | zero => intro s t t' t1 _ _ ha h; cases h; exact ⟨t', rfl, ha⟩
  | succ n ih =>
    intro s t t' t1 h1 h2 ha h
    unfold sgL at h ⊢
    cases hS : sgS I F rec (12 * c + s) base wide t with
    | none => rw [hS] at h; cases h
    | some t2 =>
      rw [hS] at h
      obtain ⟨t2', q1, q2⟩ := sgS_agr hrec wf hc ⟨h1.2, by omega⟩ h2 ha hS
      have q3 := sgS_mono hmono wf hc ⟨h1.2, by omega⟩ h2.2.1 h2.2.2 hS
      rw [q1]
      exact ih (s + 1) t2 t2' t1 (by omega) (by omega) q2 h
theorem sg_agr (wf : wfC I F) : ∀ (d : Nat) (c w : Int) (t t' t1 : CS), 0 ≤ c → c < I 2 → (0 ≤ t.1 ∧ t.1 ≤ 1000) → agr t t' → sg I F d c w t = some t1 → ∃ t1', sg I F d c w t' = some t1' ∧ agr t1 t1' := by
  intro d
  induction d with
  | zero => intro c w t t' t1 _ _ _ _ h; cases h
  | succ d ih =>
    intro c w t t' t1 h1 h2 h3 ha h
    have hst := (wf c h1 h2).1
    have e : t'.1 = t.1 := ha.1.symm
    show ∃ t1', sgL I F (sg I F d) c t'.1 w (F 3 c).toNat 0 t' = some t1' ∧ _
    rw [e]
    exact sgL_agr (fun c' w' t t' t1 => ih c' w' t t' t1) (fun c' w' t t1 => sg_mono wf d c' w' t t1) wf ⟨h1, h2⟩ (F 3 c).toNat 0 t t' t1 (by omega) ⟨h3.1, Int.le_refl _, h3.2⟩ ha h
end AGR
set_option maxRecDepth 20000 in
theorem k_X0_writeStep0 {l0 : Launch} {g : Gw} {w nx : Nat} {h : Nat → va_E} {C : Nat → Nat → Int} {A : Nat → Int → Int} {V : Nat → Value} {I : Nat → Int} {F : Nat → Int → Int} {ca : Nat → Nat} {sa : Nat → Nat → Nat} {own : Nat → Nat} {a : Int} {f : Int → Int} {c s : Nat} {bs room dp : Int} (hD : RDy h nx C V I F ca sa own) (hR : RCa w C A I F) (hc : (c : Int) < I 2) (hs : (s : Int) < F 3 (c : Int)) (hb : 0 ≤ bs ∧ bs ≤ a) (ha : 0 ≤ a ∧ a ≤ 1000) (hr : -13000 ≤ room ∧ room ≤ 40) (hk : ¬ F 4 (12 * (c : Int) + (s : Int)) = 4) (hfit : a + amF (F 4 (12 * (c : Int) + (s : Int))) (F 5 (12 * (c : Int) + (s : Int))) (a - bs) room ≤ 1000) (hf : col7 f) : MD l0 g 4 mX0_writeStep (cp w (cW C a) (aW A f) V h, nx) [.ref 230, .ref (sa c s), .int (iI (bs)), .int (iI (room)), .int (iI (dp))] 0 0 (none) (cp w (cW C (a + amF (F 4 (12 * (c : Int) + (s : Int))) (F 5 (12 * (c : Int) + (s : Int))) (a - bs) room)) (aW A (exF (vaF (F 4 (12 * (c : Int) + (s : Int))) (F 6 (12 * (c : Int) + (s : Int))) (blF I F (F 5 (12 * (c : Int) + (s : Int)))) bs a f) a (amF (F 4 (12 * (c : Int) + (s : Int))) (F 5 (12 * (c : Int) + (s : Int))) (a - bs) room) f)) V h, nx) := by
  have hwf := (hD.wf c (by omega) hc).2 s (by omega) hs
  refine MD.of (by decide +kernel) (by simp [Value.category]) (tle rfl) (fun X b => ?_)
  change WW X g _ _ 0 0 0 [some (.ref 230), some (.ref (sa c s)), some (.int (iI (bs))), some (.int (iI (room))), some (.int (iI (dp))), none] [] _
  refine w_aload_n b dX0_writeStep_0 rfl rfl ?_
  refine q_get (v := .int (iI a)) b dX0_writeStep_1 lfX0_92 (tlt rfl) ct_230 rfl ?_
  refine w_iload_n b dX0_writeStep_4 rfl ?_
  refine z_isub b dX0_writeStep_5 ?_
  refine w_istore b dX0_writeStep_6 (tlt rfl) rfl ?_
  refine w_aload_n b dX0_writeStep_8 rfl rfl ?_
  refine w_getf b dX0_writeStep_9 lfX0_76 ((hD.cW a).step hc hs) rfl ?_
  by_cases e12_0 : F 4 (12 * (c : Int) + (s : Int)) = 0
  · refine w_tswI (tgt := 48) (off := 36) b dX0_writeStep_12 (by rw [iI_toInt (by omega)]; omega) (by rw [iI_toInt (by omega)]; omega) (by rw [iI_toInt (by omega), e12_0]; rfl) (by decide) ?_
    have hw5 := hwf.2.1 e12_0
    have hw6 := hwf.2.2.2.2 (Or.inl e12_0)
    have eam : amF (F 4 (12 * (c : Int) + (s : Int))) (F 5 (12 * (c : Int) + (s : Int))) (a - bs) room = if 0 ≤ F 5 (12 * (c : Int) + (s : Int)) then F 5 (12 * (c : Int) + (s : Int)) else 0 := by unfold amF; (repeat' split) <;> first | rfl | omega
    have eva : exF (vaF (F 4 (12 * (c : Int) + (s : Int))) (F 6 (12 * (c : Int) + (s : Int))) (blF I F (F 5 (12 * (c : Int) + (s : Int)))) bs a f) a (if 0 ≤ F 5 (12 * (c : Int) + (s : Int)) then F 5 (12 * (c : Int) + (s : Int)) else 0) f = exF (fun _ => F 6 (12 * (c : Int) + (s : Int))) a (if 0 ≤ F 5 (12 * (c : Int) + (s : Int)) then F 5 (12 * (c : Int) + (s : Int)) else 0) f := exF_cong (fun j h1 h2 => by unfold vaF; (repeat' split) <;> first | rfl | omega)
    refine w_aload_n b dX0_writeStep_48 rfl rfl ?_
    refine w_aload_n b dX0_writeStep_49 rfl rfl ?_
    refine w_getf b dX0_writeStep_50 lfX0_102 ((hD.cW a).step hc hs) rfl ?_
    refine w_aload_n b dX0_writeStep_53 rfl rfl ?_
    refine w_getf b dX0_writeStep_54 lfX0_79 ((hD.cW a).step hc hs) rfl ?_
    refine c_V2v b dX0_writeStep_57 lmX0_105 (cpS (tlt rfl) ct_230) (k_X0_writeColour (by rw [← eam]; exact ⟨ha.1, hfit⟩) (by omega) (by omega)) (tle rfl) (by omega) (by omega) (by omega) ?_
    refine w_goto (tgt := 133) b dX0_writeStep_60 (by decide) ?_
    exact w_vret b dX0_writeStep_133 rfl (by omega) (by omega) ⟨rfl, by rw [eam, eva]⟩
  by_cases e12_1 : F 4 (12 * (c : Int) + (s : Int)) = 1
  · refine w_tswI (tgt := 63) (off := 51) b dX0_writeStep_12 (by rw [iI_toInt (by omega)]; omega) (by rw [iI_toInt (by omega)]; omega) (by rw [iI_toInt (by omega), e12_1]; rfl) (by decide) ?_
    have hw6 := hwf.2.2.2.2 (Or.inr e12_1)
    have eam : amF (F 4 (12 * (c : Int) + (s : Int))) (F 5 (12 * (c : Int) + (s : Int))) (a - bs) room = if 0 ≤ room - (a - bs) then room - (a - bs) else 0 := by unfold amF; (repeat' split) <;> first | rfl | omega
    have eva : exF (vaF (F 4 (12 * (c : Int) + (s : Int))) (F 6 (12 * (c : Int) + (s : Int))) (blF I F (F 5 (12 * (c : Int) + (s : Int)))) bs a f) a (if 0 ≤ room - (a - bs) then room - (a - bs) else 0) f = exF (fun _ => F 6 (12 * (c : Int) + (s : Int))) a (if 0 ≤ room - (a - bs) then room - (a - bs) else 0) f := exF_cong (fun j h1 h2 => by unfold vaF; (repeat' split) <;> first | rfl | omega)
    refine w_aload_n b dX0_writeStep_63 rfl rfl ?_
    refine w_aload_n b dX0_writeStep_64 rfl rfl ?_
    refine w_getf b dX0_writeStep_65 lfX0_102 ((hD.cW a).step hc hs) rfl ?_
    refine w_iload_n b dX0_writeStep_68 rfl ?_
    refine w_iload b dX0_writeStep_69 rfl ?_
    refine z_isub b dX0_writeStep_71 ?_
    refine c_V2v b dX0_writeStep_72 lmX0_105 (cpS (tlt rfl) ct_230) (k_X0_writeColour (by rw [← eam]; exact ⟨ha.1, hfit⟩) (by omega) (by omega)) (tle rfl) (by omega) (by omega) (by omega) ?_
    refine w_goto (tgt := 133) b dX0_writeStep_75 (by decide) ?_
    exact w_vret b dX0_writeStep_133 rfl (by omega) (by omega) ⟨rfl, by rw [eam, eva]⟩
  by_cases e12_2 : F 4 (12 * (c : Int) + (s : Int)) = 2
  · refine w_tswI (tgt := 78) (off := 66) b dX0_writeStep_12 (by rw [iI_toInt (by omega)]; omega) (by rw [iI_toInt (by omega)]; omega) (by rw [iI_toInt (by omega), e12_2]; rfl) (by decide) ?_
    have eam : amF (F 4 (12 * (c : Int) + (s : Int))) (F 5 (12 * (c : Int) + (s : Int))) (a - bs) room = a - bs := by unfold amF; (repeat' split) <;> first | rfl | omega
    have eva : exF (vaF (F 4 (12 * (c : Int) + (s : Int))) (F 6 (12 * (c : Int) + (s : Int))) (blF I F (F 5 (12 * (c : Int) + (s : Int)))) bs a f) a (a - bs) f = exF (fun i => f (a - 1 - i)) a (a - bs) f := exF_cong (fun j h1 h2 => by unfold vaF; (repeat' split) <;> first | rfl | omega)
    refine w_aload_n b dX0_writeStep_78 rfl rfl ?_
    refine w_iload_n b dX0_writeStep_79 rfl ?_
    refine w_iload b dX0_writeStep_80 rfl ?_
    refine c_V2v b dX0_writeStep_82 lmX0_109 (cpS (tlt rfl) ct_230) (k_X0_writeBackward (by rw [← eam]; exact ⟨ha.1, hfit⟩) (by omega) hf (by omega)) (tle rfl) (by omega) (by omega) (by omega) ?_
    refine w_goto (tgt := 133) b dX0_writeStep_85 (by decide) ?_
    exact w_vret b dX0_writeStep_133 rfl (by omega) (by omega) ⟨rfl, by rw [eam, eva]⟩
  by_cases e12_3 : F 4 (12 * (c : Int) + (s : Int)) = 3
  · refine w_tswI (tgt := 88) (off := 76) b dX0_writeStep_12 (by rw [iI_toInt (by omega)]; omega) (by rw [iI_toInt (by omega)]; omega) (by rw [iI_toInt (by omega), e12_3]; rfl) (by decide) ?_
    have hw5 := hwf.2.2.1 (Or.inl e12_3)
    have hm4 := Int.mul_nonneg (show 0 ≤ a - bs by omega) (show 0 ≤ F 5 (12 * (c : Int) + (s : Int)) by omega)
    have hm3 : 0 < (a - bs) * F 5 (12 * (c : Int) + (s : Int)) → bs < a := fun z => by rcases Int.lt_or_eq_of_le hb.2 with q | q; exact q; (exfalso; rw [show a - bs = 0 by omega, Int.zero_mul] at z; omega)
    have eam : amF (F 4 (12 * (c : Int) + (s : Int))) (F 5 (12 * (c : Int) + (s : Int))) (a - bs) room = (a - bs) * F 5 (12 * (c : Int) + (s : Int)) := by unfold amF; (repeat' split) <;> first | rfl | omega
    have eva : exF (vaF (F 4 (12 * (c : Int) + (s : Int))) (F 6 (12 * (c : Int) + (s : Int))) (blF I F (F 5 (12 * (c : Int) + (s : Int)))) bs a f) a ((a - bs) * F 5 (12 * (c : Int) + (s : Int))) f = exF (fun i => f (bs + i % (a - bs))) a ((a - bs) * F 5 (12 * (c : Int) + (s : Int))) f := exF_cong (fun j h1 h2 => by unfold vaF; (repeat' split) <;> first | rfl | omega)
    refine w_aload_n b dX0_writeStep_88 rfl rfl ?_
    refine w_iload_n b dX0_writeStep_89 rfl ?_
    refine w_iload b dX0_writeStep_90 rfl ?_
    refine w_aload_n b dX0_writeStep_92 rfl rfl ?_
    refine w_getf b dX0_writeStep_93 lfX0_79 ((hD.cW a).step hc hs) rfl ?_
    refine z_imul b dX0_writeStep_96 ?_
    refine c_V2v b dX0_writeStep_97 lmX0_112 (cpS (tlt rfl) ct_230) (k_X0_writeAgain (by rw [← eam]; exact ⟨ha.1, hfit⟩) (by omega) hm3 hf hm4) (tle rfl) (by omega) (by omega) (by omega) ?_
    refine w_goto (tgt := 133) b dX0_writeStep_100 (by decide) ?_
    exact w_vret b dX0_writeStep_133 rfl (by omega) (by omega) ⟨rfl, by rw [eam, eva]⟩
  by_cases e12_4 : F 4 (12 * (c : Int) + (s : Int)) = 4
  · refine w_tswI (tgt := 103) (off := 91) b dX0_writeStep_12 (by rw [iI_toInt (by omega)]; omega) (by rw [iI_toInt (by omega)]; omega) (by rw [iI_toInt (by omega), e12_4]; rfl) (by decide) ?_
    exfalso; omega
  refine w_tswO (tgt := 122) b dX0_writeStep_12 (by rw [iI_toInt (by omega)]; omega) (by decide) ?_
  have e5 : F 4 (12 * (c : Int) + (s : Int)) = 5 := by omega
  have hw5 := hwf.2.2.1 (Or.inr e5)
  have eam : amF (F 4 (12 * (c : Int) + (s : Int))) (F 5 (12 * (c : Int) + (s : Int))) (a - bs) room = if (a - bs) < room then room - (a - bs) else 0 := by unfold amF; (repeat' split) <;> first | rfl | omega
  have eva : exF (vaF (F 4 (12 * (c : Int) + (s : Int))) (F 6 (12 * (c : Int) + (s : Int))) (blF I F (F 5 (12 * (c : Int) + (s : Int)))) bs a f) a (if (a - bs) < room then room - (a - bs) else 0) f = exF (fun i => blF I F (F 5 (12 * (c : Int) + (s : Int))) ((a - bs) + i)) a (if (a - bs) < room then room - (a - bs) else 0) f := exF_cong (fun j h1 h2 => by unfold vaF; (repeat' split) <;> first | rfl | omega)
  refine w_aload_n b dX0_writeStep_122 rfl rfl ?_
  refine w_aload_n b dX0_writeStep_123 rfl rfl ?_
  refine w_getf b dX0_writeStep_124 lfX0_79 ((hD.cW a).step hc hs) rfl ?_
  refine w_iload b dX0_writeStep_127 rfl ?_
  refine w_iload_n b dX0_writeStep_129 rfl ?_
  refine c_V3v b dX0_writeStep_130 lmX0_115 (cpS (tlt rfl) ct_230) (k_X0_writeLike hR (by rw [← eam]; exact ⟨ha.1, hfit⟩) (by omega) (by omega) (by omega) (by omega) (by omega)) (tle rfl) (by omega) (by omega) (by omega) ?_
  exact w_vret b dX0_writeStep_133 rfl (by omega) (by omega) ⟨rfl, by rw [eam, eva]⟩
set_option maxRecDepth 20000 in
theorem k_X0_writeStep1 {l0 : Launch} {g : Gw} {w nx : Nat} {h : Nat → va_E} {C : Nat → Nat → Int} {A : Nat → Int → Int} {V : Nat → Value} {I : Nat → Int} {F : Nat → Int → Int} {ca : Nat → Nat} {sa : Nat → Nat → Nat} {own : Nat → Nat} {a : Int} {f : Int → Int} {e c s : Nat} {bs room dp bg : Int} {t1 : CS} (hD : RDy h nx C V I F ca sa own) (hc : (c : Int) < I 2) (hs : (s : Int) < F 3 (c : Int)) (ihe : ∀ (c : Nat) (room dp bg : Int) (a : Int) (f : Int → Int) (t1 : CS), c < e → (c : Int) < I 2 → (0 ≤ dp ∧ dp + c ≤ 11) → (-1000 * dp ≤ room ∧ room ≤ 40) → (0 ≤ a ∧ a ≤ 1000) → col7 f → sg I F e (c : Int) room (a, f, bg) = some t1 → MD l0 g (2 * e + 6) mX0_write (cp w (cW C a) (aW A f) V h, nx) [.ref 230, .int (iI (c : Int)), .int (iI room), .int (iI dp)] 0 0 none (cp w (cW C t1.1) (aW A t1.2.1) V h, nx)) (hce : c < e + 1) (hb : 0 ≤ bs ∧ bs ≤ a) (ha : 0 ≤ a ∧ a ≤ 1000) (hdp : 0 ≤ dp ∧ dp + c ≤ 11) (hr : -1000 * dp ≤ room ∧ room ≤ 40) (hk : F 4 (12 * (c : Int) + (s : Int)) = 4) (hf : col7 f) (hsg : sg I F e (F 5 (12 * (c : Int) + (s : Int))) (room - (a - bs)) (a, f, bg) = some t1) : MD l0 g (2 * e + 7) mX0_writeStep (cp w (cW C a) (aW A f) V h, nx) [.ref 230, .ref (sa c s), .int (iI (bs)), .int (iI (room)), .int (iI (dp))] 0 0 (none) (cp w (cW C t1.1) (aW A t1.2.1) V h, nx) := by
  have hwf := ((hD.wf c (by omega) hc).2 s (by omega) hs).2.2.2.1 hk
  have hn2 := hD.n2
  obtain ⟨n, hn⟩ := Int.eq_ofNat_of_zero_le hwf.1
  rw [hn] at hsg
  refine MD.of (by decide +kernel) (by simp [Value.category]) (tle rfl) (fun X b => ?_)
  change WW X g _ _ 0 0 0 [some (.ref 230), some (.ref (sa c s)), some (.int (iI (bs))), some (.int (iI (room))), some (.int (iI (dp))), none] [] _
  refine w_aload_n b dX0_writeStep_0 rfl rfl ?_
  refine q_get (v := .int (iI a)) b dX0_writeStep_1 lfX0_92 (tlt rfl) ct_230 rfl ?_
  refine w_iload_n b dX0_writeStep_4 rfl ?_
  refine z_isub b dX0_writeStep_5 ?_
  refine w_istore b dX0_writeStep_6 (tlt rfl) rfl ?_
  refine w_aload_n b dX0_writeStep_8 rfl rfl ?_
  refine w_getf b dX0_writeStep_9 lfX0_76 ((hD.cW a).step hc hs) rfl ?_
  by_cases e12_0 : F 4 (12 * (c : Int) + (s : Int)) = 0
  · refine w_tswI (tgt := 48) (off := 36) b dX0_writeStep_12 (by rw [iI_toInt (by omega)]; omega) (by rw [iI_toInt (by omega)]; omega) (by rw [iI_toInt (by omega), e12_0]; rfl) (by decide) ?_
    exfalso; omega
  by_cases e12_1 : F 4 (12 * (c : Int) + (s : Int)) = 1
  · refine w_tswI (tgt := 63) (off := 51) b dX0_writeStep_12 (by rw [iI_toInt (by omega)]; omega) (by rw [iI_toInt (by omega)]; omega) (by rw [iI_toInt (by omega), e12_1]; rfl) (by decide) ?_
    exfalso; omega
  by_cases e12_2 : F 4 (12 * (c : Int) + (s : Int)) = 2
  · refine w_tswI (tgt := 78) (off := 66) b dX0_writeStep_12 (by rw [iI_toInt (by omega)]; omega) (by rw [iI_toInt (by omega)]; omega) (by rw [iI_toInt (by omega), e12_2]; rfl) (by decide) ?_
    exfalso; omega
  by_cases e12_3 : F 4 (12 * (c : Int) + (s : Int)) = 3
  · refine w_tswI (tgt := 88) (off := 76) b dX0_writeStep_12 (by rw [iI_toInt (by omega)]; omega) (by rw [iI_toInt (by omega)]; omega) (by rw [iI_toInt (by omega), e12_3]; rfl) (by decide) ?_
    exfalso; omega
  by_cases e12_4 : F 4 (12 * (c : Int) + (s : Int)) = 4
  · refine w_tswI (tgt := 103) (off := 91) b dX0_writeStep_12 (by rw [iI_toInt (by omega)]; omega) (by rw [iI_toInt (by omega)]; omega) (by rw [iI_toInt (by omega), e12_4]; rfl) (by decide) ?_
    refine w_aload_n b dX0_writeStep_103 rfl rfl ?_
    refine w_aload_n b dX0_writeStep_104 rfl rfl ?_
    refine w_getf b dX0_writeStep_105 lfX0_79 ((hD.cW a).step hc hs) rfl ?_
    refine w_iload_n b dX0_writeStep_108 rfl ?_
    refine w_iload b dX0_writeStep_109 rfl ?_
    refine z_isub b dX0_writeStep_111 ?_
    refine w_iload b dX0_writeStep_112 rfl ?_
    refine z_iconst b dX0_writeStep_114 ?_
    refine z_iadd b dX0_writeStep_115 ?_
    rw [hn]
    refine c_V3v b dX0_writeStep_116 lmX0_95 (cpS (tlt rfl) ct_230) (ihe n (room - (a - bs)) (dp + 1) bg a f t1 (by omega) (by omega) (by omega) (by omega) ha hf hsg) (tle rfl) (by omega) (by omega) (by omega) ?_
    refine w_goto (tgt := 133) b dX0_writeStep_119 (by decide) ?_
    exact w_vret b dX0_writeStep_133 rfl (by omega) (by omega) ⟨rfl, rfl⟩
  refine w_tswO (tgt := 122) b dX0_writeStep_12 (by rw [iI_toInt (by omega)]; omega) (by decide) ?_
  exfalso; omega
theorem sg_c7 {I : Nat → Int} {F : Nat → Int → Int} (wf : wfC I F) (h21 : 0 ≤ I 21 ∧ I 21 ≤ 40) (h1_ : 4 ≤ I 1 ∧ I 1 ≤ 40) (h23 : ∀ j, 0 ≤ j → j < 1600 → 0 ≤ F 23 j ∧ F 23 j ≤ 7) : ∀ (d : Nat) (c w : Int) (t t1 : CS), 0 ≤ c → c < I 2 → (0 ≤ t.1 ∧ t.1 ≤ 1000) → col7 t.2.1 → sg I F d c w t = some t1 → col7 t1.2.1 := by
  intro d
  induction d with
  | zero => intro c w t t1 _ _ _ _ h; cases h
  | succ d ih =>
    intro c w t t1 h1 h2 h3 h4 h
    have hst := (wf c h1 h2).1
    have key : ∀ (n : Nat) (s : Int) (t2 t1 : CS), (s + n = F 3 c ∧ 0 ≤ s) → (t.1 ≤ t2.1 ∧ t2.1 ≤ 1000) → col7 t2.2.1 → sgL I F (sg I F d) c t.1 w n s t2 = some t1 → col7 t1.2.1 := by
      intro n
      induction n with
      | zero => intro s t2 t1 _ _ g3 g4; cases g4; exact g3
      | succ n ihn =>
        intro s t2 t1 g1 g2 g3 g4
        unfold sgL at g4
        cases hS : sgS I F (sg I F d) (12 * c + s) t.1 w t2 with
        | none => rw [hS] at g4; cases g4
        | some t3 =>
          rw [hS] at g4
          have q1 := sgS_mono (sg_mono wf d) wf ⟨h1, h2⟩ ⟨g1.2, by omega⟩ g2.1 g2.2 hS
          refine ihn (s + 1) t3 t1 (by omega) (by omega) ?_ g4
          obtain ⟨w1, w2, w3, w4, w5⟩ := (wf c h1 h2).2 s g1.2 (by omega)
          unfold sgS at hS
          by_cases k1 : 1000 < t2.2.2 + 1
          · rw [if_pos k1] at hS; cases hS
          · rw [if_neg k1] at hS
            by_cases k2 : F 4 (12 * c + s) = 4
            · rw [if_pos k2] at hS
              have := w4 k2
              exact ih _ _ (t2.1, t2.2.1, t2.2.2 + 1) t3 (by omega) (by omega) (by show 0 ≤ t2.1 ∧ t2.1 ≤ 1000; omega) g3 hS
            · rw [if_neg k2] at hS
              by_cases k3 : t2.1 + amF (F 4 (12 * c + s)) (F 5 (12 * c + s)) (t2.1 - t.1) w ≤ 1000
              · rw [if_pos k3] at hS
                cases hS
                exact exF_c7 w1 k2 w3 w5 (by omega) (by omega) h21 h1_ h23 g3
              · rw [if_neg k3] at hS; cases hS
    exact key (F 3 c).toNat 0 t t1 (by omega) (by omega) h4 h
set_option maxRecDepth 20000 in
theorem l_X0_write {X : Cx} {Z : State → Prop} {l0 : Launch} {g : Gw} {w nx : Nat} {h : Nat → va_E} {C : Nat → Nat → Int} {A : Nat → Int → Int} {V : Nat → Value} {I : Nat → Int} {F : Nat → Int → Int} {ca : Nat → Nat} {sa : Nat → Nat → Nat} {own : Nat → Nat} {e c : Nat} {room bs dp : Int} (hD : RDy h nx C V I F ca sa own) (hR : RCa w C A I F) (hc : (c : Int) < I 2) (ihe : ∀ (c : Nat) (room dp bg : Int) (a : Int) (f : Int → Int) (t1 : CS), c < e → (c : Int) < I 2 → (0 ≤ dp ∧ dp + c ≤ 11) → (-1000 * dp ≤ room ∧ room ≤ 40) → (0 ≤ a ∧ a ≤ 1000) → col7 f → sg I F e (c : Int) room (a, f, bg) = some t1 → MD l0 g (2 * e + 6) mX0_write (cp w (cW C a) (aW A f) V h, nx) [.ref 230, .int (iI (c : Int)), .int (iI room), .int (iI dp)] 0 0 none (cp w (cW C t1.1) (aW A t1.2.1) V h, nx)) (hce : c < e + 1) (hbs : 0 ≤ bs) (hdp : 0 ≤ dp ∧ dp + c ≤ 11) (hr : -1000 * dp ≤ room ∧ room ≤ 40) (b : BX X l0 g mX0_write (2 * e + 8) 0 0) : ∀ (n s : Nat) (t t1 : CS), ((s : Int) + n = F 3 (c : Int)) → (bs ≤ t.1 ∧ t.1 ≤ 1000) → col7 t.2.1 → sgL I F (sg I F e) (c : Int) bs room n (s : Int) t = some t1 → WW X g mX0_write.2.2.1 Z 0 0 74 [some (.ref 230), some (.int (iI ((c : Int)))), some (.int (iI (room))), some (.int (iI (dp))), some (.ref (ca c + 1)), some (.int (iI (bs))), none] [] (cp w (cW C t1.1) (aW A t1.2.1) V h, nx) → WW X g mX0_write.2.2.1 Z 0 0 40 [some (.ref 230), some (.int (iI ((c : Int)))), some (.int (iI (room))), some (.int (iI (dp))), some (.ref (ca c + 1)), some (.int (iI (bs))), some (.int (iI ((s : Int))))] [] (cp w (cW C t.1) (aW A t.2.1) V h, nx) := by
  have hn2 := hD.n2
  have hwf := hD.wf c (by omega) hc
  have hw1 := hR.w1
  have hw2 := hR.w2
  intro n
  induction n with
  | zero =>
    intro s t t1 h1 h2 hf hsg kk
    cases hsg
    obtain ⟨m9, v9, e0, e9⟩ := (hD.cW t.1).list (w := w) (A := aW A t.2.1) hc
    refine w_iload b dX0_write_40 rfl ?_
    refine w_aload b dX0_write_42 rfl rfl ?_
    refine c_V0 b dX0_write_44 lmX0_34 e0 (k_sizeS (hD.cW t.1) hc) (tle rfl) (by omega) (by omega) (by omega) ?_
    refine z_icmp_ge (tgt := 74) b dX0_write_47 (by decide) (by omega) (fun c47 => ?_) (fun c47 => ?_)
    · refine ww_forget 6 ?_
      exact kk
    · exfalso; omega
  | succ n ih =>
    intro s t t1 h1 h2 hf hsg kk
    obtain ⟨m9, v9, e0, e9⟩ := (hD.cW t.1).list (w := w) (A := aW A t.2.1) hc
    have hs : (s : Int) < F 3 (c : Int) := by omega
    unfold sgL at hsg
    cases hS : sgS I F (sg I F e) (12 * (c : Int) + (s : Int)) bs room t with
    | none => rw [hS] at hsg; cases hsg
    | some t2 =>
      rw [hS] at hsg
      have hmn := sgS_mono (sg_mono hD.wf e) hD.wf ⟨by omega, hc⟩ ⟨by omega, hs⟩ h2.1 h2.2 hS
      have hf2 : col7 t2.2.1 := by
        have q := sg_c7 (I := I) (F := F) hD.wf hR.t2 (by omega) hR.b23
        unfold sgS at hS
        obtain ⟨w1, w2, w3, w4, w5⟩ := hwf.2 s (by omega) hs
        by_cases k1 : 1000 < t.2.2 + 1
        · rw [if_pos k1] at hS; cases hS
        · rw [if_neg k1] at hS
          by_cases k2 : F 4 (12 * (c : Int) + (s : Int)) = 4
          · rw [if_pos k2] at hS
            have := w4 k2
            exact q e _ _ (t.1, t.2.1, t.2.2 + 1) t2 (by omega) (by omega) (by show 0 ≤ t.1 ∧ t.1 ≤ 1000; omega) hf hS
          · rw [if_neg k2] at hS
            by_cases k3 : t.1 + amF (F 4 (12 * (c : Int) + (s : Int))) (F 5 (12 * (c : Int) + (s : Int))) (t.1 - bs) room ≤ 1000
            · rw [if_pos k3] at hS
              cases hS
              exact exF_c7 w1 k2 w3 w5 (by omega) (by omega) hR.t2 (by omega) hR.b23 hf
            · rw [if_neg k3] at hS; cases hS
      refine w_iload b dX0_write_40 rfl ?_
      refine w_aload b dX0_write_42 rfl rfl ?_
      refine c_V0 b dX0_write_44 lmX0_34 e0 (k_sizeS (hD.cW t.1) hc) (tle rfl) (by omega) (by omega) (by omega) ?_
      refine z_icmp_ge (tgt := 74) b dX0_write_47 (by decide) (by omega) (fun c47 => ?_) (fun c47 => ?_)
      · exfalso; omega
      · refine w_aload_n b dX0_write_50 rfl rfl ?_
        refine w_aload b dX0_write_51 rfl rfl ?_
        refine w_iload b dX0_write_53 rfl ?_
        refine c_V1 b dX0_write_55 lmX0_42 e0 (k_getS (hD.cW t.1) hc hs) (tle rfl) (by omega) (by omega) (by omega) ?_
        refine w_castS (ci := 5) b dX0_write_58 rfl lcX0_51 ((hD.cW t.1).step hc hs) ?_
        refine w_iload b dX0_write_61 rfl ?_
        refine w_iload_n b dX0_write_63 rfl ?_
        refine w_iload_n b dX0_write_64 rfl ?_
        unfold sgS at hS
        by_cases k1 : 1000 < t.2.2 + 1
        · rw [if_pos k1] at hS; cases hS
        rw [if_neg k1] at hS
        by_cases k2 : F 4 (12 * (c : Int) + (s : Int)) = 4
        · rw [if_pos k2] at hS
          refine c_V4v b dX0_write_65 lmX0_98 (cpS (tlt rfl) ct_230) (k_X0_writeStep1 (bg := t.2.2 + 1) (t1 := t2) hD hc hs ihe hce (by omega) (by omega) hdp hr k2 hf hS) (tle rfl) (by omega) (by omega) (by omega) ?_
          refine z_iinc b dX0_write_68 rfl rfl rfl ?_
          refine w_goto (tgt := 40) b dX0_write_71 (by decide) ?_
          exact ih (s + 1) t2 t1 (by omega) (by omega) hf2 hsg kk
        · rw [if_neg k2] at hS
          by_cases k3 : t.1 + amF (F 4 (12 * (c : Int) + (s : Int))) (F 5 (12 * (c : Int) + (s : Int))) (t.1 - bs) room ≤ 1000
          · rw [if_pos k3] at hS
            cases hS
            refine c_V4v b dX0_write_65 lmX0_98 (cpS (tlt rfl) ct_230) (k_X0_writeStep0 hD hR hc hs (by omega) (by omega) (by omega) k2 k3 hf) (tle rfl) (by omega) (by omega) (by omega) ?_
            refine z_iinc b dX0_write_68 rfl rfl rfl ?_
            refine w_goto (tgt := 40) b dX0_write_71 (by decide) ?_
            exact ih (s + 1) (t.1 + amF (F 4 (12 * (c : Int) + (s : Int))) (F 5 (12 * (c : Int) + (s : Int))) (t.1 - bs) room, exF (vaF (F 4 (12 * (c : Int) + (s : Int))) (F 6 (12 * (c : Int) + (s : Int))) (blF I F (F 5 (12 * (c : Int) + (s : Int)))) bs t.1 t.2.1) t.1 (amF (F 4 (12 * (c : Int) + (s : Int))) (F 5 (12 * (c : Int) + (s : Int))) (t.1 - bs) room) t.2.1, t.2.2 + 1) t1 (by omega) ⟨by have := hmn.1; omega, hmn.2⟩ hf2 hsg kk
          · rw [if_neg k3] at hS; cases hS
set_option maxRecDepth 20000 in
theorem k_X0_write {l0 : Launch} {g : Gw} {w nx : Nat} {h : Nat → va_E} {C : Nat → Nat → Int} {A : Nat → Int → Int} {V : Nat → Value} {I : Nat → Int} {F : Nat → Int → Int} {ca : Nat → Nat} {sa : Nat → Nat → Nat} {own : Nat → Nat} (hD : RDy h nx C V I F ca sa own) (hR : RCa w C A I F) : ∀ (e c : Nat) (room dp bg : Int) (a : Int) (f : Int → Int) (t1 : CS), c < e → (c : Int) < I 2 → (0 ≤ dp ∧ dp + c ≤ 11) → (-1000 * dp ≤ room ∧ room ≤ 40) → (0 ≤ a ∧ a ≤ 1000) → col7 f → sg I F e (c : Int) room (a, f, bg) = some t1 → MD l0 g (2 * e + 6) mX0_write (cp w (cW C a) (aW A f) V h, nx) [.ref 230, .int (iI (c : Int)), .int (iI room), .int (iI dp)] 0 0 none (cp w (cW C t1.1) (aW A t1.2.1) V h, nx) := by
  intro e
  induction e with
  | zero => intro c room dp bg a f t1 h1; omega
  | succ e ihe =>
    intro c room dp bg a f t1 hce hc hdp hr ha hf hsg
    have hn2 := hD.n2
    have hwf := (hD.wf c (by omega) hc).1
    refine MD.of (by decide +kernel) (by simp [Value.category]) (tle rfl) (fun X b => ?_)
    change WW X g _ _ 0 0 0 [some (.ref 230), some (.int (iI ((c : Int)))), some (.int (iI (room))), some (.int (iI (dp))), none, none, none] [] _
    refine w_iload_n b dX0_write_0 rfl ?_
    refine z_bipush b dX0_write_1 (by decide) ?_
    refine z_icmp_gt (tgt := 14) b dX0_write_3 (by decide) (by omega) (fun c3 => ?_) (fun c3 => ?_)
    · exfalso; omega
    · refine w_aload_n b dX0_write_6 rfl rfl ?_
      refine w_iload_n b dX0_write_7 rfl ?_
      refine c_V1 b dX0_write_8 lmX0_38 (cpS (tlt rfl) ct_230) (k_X0_hasChant (hD.cW a) (by omega)) (tle rfl) (by omega) (by omega) (by omega) ?_
      refine z_ifb_ne (tgt := 15) b dX0_write_11 (by decide) (fun c11 => ?_) (fun c11 => ?_)
      · refine w_aload_n b dX0_write_15 rfl rfl ?_
        refine q_get b dX0_write_16 lfX0_12 (tlt rfl) ct_230 rfl ?_
        refine w_iload_n b dX0_write_19 rfl ?_
        refine c_V1 b dX0_write_20 lmX0_42 (cpS (tlt rfl) ct_231) (k_getC (hD.cW a) hc) (tle rfl) (by omega) (by omega) (by omega) ?_
        refine w_castS (ci := 2) b dX0_write_23 rfl lcX0_46 ((hD.cW a).chant hc) ?_
        refine w_getf b dX0_write_26 lfX0_48 ((hD.cW a).chant hc) rfl ?_
        refine w_astore b dX0_write_29 (tlt rfl) rfl rfl ?_
        refine w_aload_n b dX0_write_31 rfl rfl ?_
        refine q_get (v := .int (iI a)) b dX0_write_32 lfX0_92 (tlt rfl) ct_230 rfl ?_
        refine w_istore b dX0_write_35 (tlt rfl) rfl ?_
        refine z_iconst b dX0_write_37 ?_
        refine w_istore b dX0_write_38 (tlt rfl) rfl ?_
        refine l_X0_write hD hR hc ihe hce ha.1 hdp hr b (F 3 (c : Int)).toNat 0 (a, f, bg) t1 (by omega) (by show a ≤ a ∧ a ≤ 1000; omega) hf hsg ?_
        exact w_vret b dX0_write_74 rfl (by omega) (by omega) ⟨rfl, rfl⟩
      · exfalso; omega
