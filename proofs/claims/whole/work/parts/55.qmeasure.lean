/-! THE CLASS: how far a chant comes (by p55.py) -/
def cM (C : Nat → Nat → Int) (bg : Int) : Nat → Nat → Int := va_up C 230 (va_up (C 230) 6 bg)
def aM (A : Nat → Int → Int) (en : Int → Int) : Nat → Int → Int := va_up A 233 en
theorem cM_put (C : Nat → Nat → Int) (bg v : Int) : va_up (cM C bg) 230 (va_up (cM C bg 230) 6 v) = cM C v := by
  unfold cM
  rw [va_up_self, va_up_twice, va_up_twice]
theorem aM_put (A : Nat → Int → Int) (en : Int → Int) (i v : Int) : va_up (aM A en) 233 (fu (aM A en 233) i v) = aM A (fu en i v) := by
  unfold aM
  rw [va_up_self, va_up_twice]
theorem cM_self (C : Nat → Nat → Int) : cM C (C 230 6) = C := by unfold cM; rw [va_up_same, va_up_same]
theorem aM_self (A : Nat → Int → Int) : aM A (A 233) = A := va_up_same A 233
theorem cM_cM (C : Nat → Nat → Int) (a b : Int) : cM (cM C a) b = cM C b := by
  unfold cM
  rw [va_up_self, va_up_twice, va_up_twice]
theorem aM_aM (A : Nat → Int → Int) (a b : Int → Int) : aM (aM A a) b = aM A b := va_up_twice A 233 a b
/-- the ends of the steps, with lengths alone -/
def edM (N K : Int → Int) (rec : Int → Int → Int × Int → Option (Int × Int)) (c base wide : Int) : Nat → Int → Int × Int → (Int → Int) → Int → Int
  | 0, _, _, e => e
  | n + 1, s, p, e => match msS N K rec (12 * c + s) base wide p with
    | none => e
    | some p1 => edM N K rec c base wide n (s + 1) p1 (fu e s (p1.1 - base))
def mQ (w nx : Nat) (C : Nat → Nat → Int) (A : Nat → Int → Int) (V : Nat → Value) (h : Nat → va_E) (before : Int) (o : Option (Int × Int)) (en1 : Int → Int) : Option Value → Sg → Prop := fun r σ' => ∃ (bg' : Int) (en' : Int → Int), (0 ≤ bg' ∧ bg' ≤ 1000) ∧ σ' = (cp w (cM C bg') (aM A en') V h, nx) ∧ (o = none → r = some (.int (iI (-6)))) ∧ ∀ p, o = some p → (before ≤ p.1 ∧ p.1 ≤ 1000) ∧ r = some (.int (iI (p.1 - before))) ∧ bg' = p.2 ∧ en' = en1
theorem msL_none {N K : Int → Int} {rec : Int → Int → Int × Int → Option (Int × Int)} {c base wide s : Int} {n : Nat} {p : Int × Int} (hs : msS N K rec (12 * c + s) base wide p = none) : msL N K rec c base wide (n + 1) s p = none := by
  unfold msL
  rw [hs]
theorem msL_some {N K : Int → Int} {rec : Int → Int → Int × Int → Option (Int × Int)} {c base wide s : Int} {n : Nat} {p p1 : Int × Int} (hs : msS N K rec (12 * c + s) base wide p = some p1) : msL N K rec c base wide (n + 1) s p = msL N K rec c base wide n (s + 1) p1 := by
  conv => lhs; unfold msL
  rw [hs]
theorem edM_some {N K : Int → Int} {rec : Int → Int → Int × Int → Option (Int × Int)} {c base wide s : Int} {n : Nat} {p p1 : Int × Int} {e : Int → Int} (hs : msS N K rec (12 * c + s) base wide p = some p1) : edM N K rec c base wide (n + 1) s p e = edM N K rec c base wide n (s + 1) p1 (fu e s (p1.1 - base)) := by
  conv => lhs; unfold edM
  rw [hs]
theorem RDy.cM {h : Nat → va_E} {nx : Nat} {C : Nat → Nat → Int} {V : Nat → Value} {I : Nat → Int} {F : Nat → Int → Int} {ca : Nat → Nat} {sa : Nat → Nat → Nat} {own : Nat → Nat} (hD : RDy h nx C V I F ca sa own) (bg : Int) : RDy h nx (cM C bg) V I F ca sa own := hD
theorem amF_nn2 {k n own wide : Int} (hn : (k = 0 ∨ k = 3) → 1 ≤ n) (ho : 0 ≤ own) : 0 ≤ amF k n own wide := by
  unfold amF
  split
  · have := hn (Or.inl ‹_›); omega
  · split
    · exact ho
    · split
      · exact Int.mul_nonneg ho (by have := hn (Or.inr ‹_›); omega)
      · split <;> omega
set_option maxRecDepth 20000 in
theorem k_X0_added0 {l0 : Launch} {g : Gw} {w nx : Nat} {h : Nat → va_E} {C : Nat → Nat → Int} {A : Nat → Int → Int} {V : Nat → Value} {I : Nat → Int} {F : Nat → Int → Int} {ca : Nat → Nat} {sa : Nat → Nat → Nat} {own : Nat → Nat} {c s : Nat} {own1 room bf dp : Int} (hD : RDy h nx C V I F ca sa own) (hc : (c : Int) < I 2) (hs : (s : Int) < F 3 (c : Int)) (ho : 0 ≤ own1 ∧ own1 ≤ 1000) (hr : -13000 ≤ room ∧ room ≤ 40) (hk : ¬ F 4 (12 * (c : Int) + (s : Int)) = 4) : MD l0 g 1 mX0_added (cp w C A V h, nx) [.ref 230, .ref (sa c s), .int (iI (own1)), .int (iI (room)), .int (iI (bf)), .int (iI (dp))] 0 0 (some (.int (iI (amF (F 4 (12 * (c : Int) + (s : Int))) (F 5 (12 * (c : Int) + (s : Int))) own1 room)))) (cp w C A V h, nx) := by
  have hwf := (hD.wf c (by omega) hc).2 s (by omega) hs
  refine MD.of (by decide +kernel) (by simp [Value.category]) (tle rfl) (fun X b => ?_)
  change WW X g _ _ 0 0 0 [some (.ref 230), some (.ref (sa c s)), some (.int (iI (own1))), some (.int (iI (room))), some (.int (iI (bf))), some (.int (iI (dp)))] [] _
  refine w_aload_n b dX0_added_0 rfl rfl ?_
  refine w_getf b dX0_added_1 lfX0_76 (hD.step hc hs) rfl ?_
  by_cases e4_0 : F 4 (12 * (c : Int) + (s : Int)) = 0
  · refine w_tswI (tgt := 40) (off := 36) b dX0_added_4 (by rw [iI_toInt (by omega)]; omega) (by rw [iI_toInt (by omega)]; omega) (by rw [iI_toInt (by omega), e4_0]; rfl) (by decide) ?_
    refine w_aload_n b dX0_added_40 rfl rfl ?_
    refine w_getf b dX0_added_41 lfX0_79 (hD.step hc hs) rfl ?_
    exact w_iret b dX0_added_44 rfl (by omega) (by omega) ⟨iv_eq (by unfold amF; rw [if_pos (by omega)]), rfl⟩
  by_cases e4_1 : F 4 (12 * (c : Int) + (s : Int)) = 1
  · refine w_tswI (tgt := 74) (off := 70) b dX0_added_4 (by rw [iI_toInt (by omega)]; omega) (by rw [iI_toInt (by omega)]; omega) (by rw [iI_toInt (by omega), e4_1]; rfl) (by decide) ?_
    refine z_iconst b dX0_added_74 ?_
    refine w_iload_n b dX0_added_75 rfl ?_
    refine w_iload_n b dX0_added_76 rfl ?_
    refine z_isub b dX0_added_77 ?_
    refine c_S2 b dX0_added_78 lmX0_82 (k_J9_max_7cf53 (by omega) (by omega)) (tle rfl) (by omega) (by omega) (by omega) ?_
    exact w_iret b dX0_added_81 rfl (by omega) (by omega) ⟨iv_eq (by unfold amF; (repeat' split) <;> omega), rfl⟩
  by_cases e4_2 : F 4 (12 * (c : Int) + (s : Int)) = 2
  · refine w_tswI (tgt := 45) (off := 41) b dX0_added_4 (by rw [iI_toInt (by omega)]; omega) (by rw [iI_toInt (by omega)]; omega) (by rw [iI_toInt (by omega), e4_2]; rfl) (by decide) ?_
    refine w_iload_n b dX0_added_45 rfl ?_
    exact w_iret b dX0_added_46 rfl (by omega) (by omega) ⟨iv_eq (by unfold amF; rw [if_neg (by omega), if_pos (by omega)]), rfl⟩
  by_cases e4_3 : F 4 (12 * (c : Int) + (s : Int)) = 3
  · refine w_tswI (tgt := 47) (off := 43) b dX0_added_4 (by rw [iI_toInt (by omega)]; omega) (by rw [iI_toInt (by omega)]; omega) (by rw [iI_toInt (by omega), e4_3]; rfl) (by decide) ?_
    refine w_iload_n b dX0_added_47 rfl ?_
    refine w_aload_n b dX0_added_48 rfl rfl ?_
    refine w_getf b dX0_added_49 lfX0_79 (hD.step hc hs) rfl ?_
    refine z_imul b dX0_added_52 ?_
    exact w_iret b dX0_added_53 rfl (by omega) (by omega) ⟨iv_eq (by unfold amF; rw [if_neg (by omega), if_neg (by omega), if_pos (by omega)]), rfl⟩
  by_cases e4_4 : F 4 (12 * (c : Int) + (s : Int)) = 4
  · refine w_tswI (tgt := 54) (off := 50) b dX0_added_4 (by rw [iI_toInt (by omega)]; omega) (by rw [iI_toInt (by omega)]; omega) (by rw [iI_toInt (by omega), e4_4]; rfl) (by decide) ?_
    exfalso; omega
  refine w_tswO (tgt := 74) b dX0_added_4 (by rw [iI_toInt (by omega)]; omega) (by decide) ?_
  refine z_iconst b dX0_added_74 ?_
  refine w_iload_n b dX0_added_75 rfl ?_
  refine w_iload_n b dX0_added_76 rfl ?_
  refine z_isub b dX0_added_77 ?_
  refine c_S2 b dX0_added_78 lmX0_82 (k_J9_max_7cf53 (by omega) (by omega)) (tle rfl) (by omega) (by omega) (by omega) ?_
  exact w_iret b dX0_added_81 rfl (by omega) (by omega) ⟨iv_eq (by unfold amF; (repeat' split) <;> omega), rfl⟩
set_option maxRecDepth 20000 in
theorem k_X0_added1 {l0 : Launch} {g : Gw} {w nx : Nat} {h : Nat → va_E} {C : Nat → Nat → Int} {A : Nat → Int → Int} {V : Nat → Value} {I : Nat → Int} {F : Nat → Int → Int} {ca : Nat → Nat} {sa : Nat → Nat → Nat} {own : Nat → Nat} {e c s : Nat} {own1 room bf dp bg : Int} {en : Int → Int} (hD : RDy h nx C V I F ca sa own) (hc : (c : Int) < I 2) (hs : (s : Int) < F 3 (c : Int)) (ihe : ∀ (c : Nat) (room bf dp bg : Int) (en : Int → Int), c < e → (c : Int) < I 2 → (0 ≤ dp ∧ dp + c ≤ 11) → (-1000 * dp ≤ room ∧ room ≤ 40) → (0 ≤ bf ∧ bf ≤ 1000) → (0 ≤ bg ∧ bg ≤ 1000) → MM l0 g (2 * e + 4) mX0_measure (cp w (cM C bg) (aM A en) V h, nx) [.ref 230, .int (iI (c : Int)), .int (iI room), .int (iI bf), .int (iI dp)] 0 0 (mQ w nx C A V h bf (ms (F 3) (F 4) (F 5) e (c : Int) room (bf, bg)) (if dp = 0 then edM (F 5) (F 4) (ms (F 3) (F 4) (F 5) (e - 1)) (c : Int) bf room (F 3 (c : Int)).toNat 0 (bf, bg) en else en))) (hce : c < e + 1) (ho : 0 ≤ own1 ∧ bf + own1 ≤ 1000) (hbf : 0 ≤ bf) (hbg : 0 ≤ bg ∧ bg ≤ 1000) (hdp : 0 ≤ dp ∧ dp + c ≤ 11) (hr : -1000 * dp ≤ room ∧ room ≤ 40) (hk : F 4 (12 * (c : Int) + (s : Int)) = 4) : MM l0 g (2 * e + 5) mX0_added (cp w (cM C bg) (aM A en) V h, nx) [.ref 230, .ref (sa c s), .int (iI own1), .int (iI room), .int (iI bf), .int (iI dp)] 0 0 (mQ w nx C A V h (bf + own1) (ms (F 3) (F 4) (F 5) e (F 5 (12 * (c : Int) + (s : Int))) (room - own1) (bf + own1, bg)) en) := by
  have hwf := ((hD.wf c (by omega) hc).2 s (by omega) hs).2.2.2.1 hk
  have hn2 := hD.n2
  obtain ⟨n, hn⟩ := Int.eq_ofNat_of_zero_le hwf.1
  refine MM.of (by decide +kernel) (by simp [Value.category]) (tle rfl) (fun X b => ?_)
  change WW X g _ _ 0 0 0 [some (.ref 230), some (.ref (sa c s)), some (.int (iI (own1))), some (.int (iI (room))), some (.int (iI (bf))), some (.int (iI (dp)))] [] _
  refine w_aload_n b dX0_added_0 rfl rfl ?_
  refine w_getf b dX0_added_1 lfX0_76 ((hD.cM bg).step hc hs) rfl ?_
  by_cases e4_0 : F 4 (12 * (c : Int) + (s : Int)) = 0
  · refine w_tswI (tgt := 40) (off := 36) b dX0_added_4 (by rw [iI_toInt (by omega)]; omega) (by rw [iI_toInt (by omega)]; omega) (by rw [iI_toInt (by omega), e4_0]; rfl) (by decide) ?_
    exfalso; omega
  by_cases e4_1 : F 4 (12 * (c : Int) + (s : Int)) = 1
  · refine w_tswI (tgt := 74) (off := 70) b dX0_added_4 (by rw [iI_toInt (by omega)]; omega) (by rw [iI_toInt (by omega)]; omega) (by rw [iI_toInt (by omega), e4_1]; rfl) (by decide) ?_
    exfalso; omega
  by_cases e4_2 : F 4 (12 * (c : Int) + (s : Int)) = 2
  · refine w_tswI (tgt := 45) (off := 41) b dX0_added_4 (by rw [iI_toInt (by omega)]; omega) (by rw [iI_toInt (by omega)]; omega) (by rw [iI_toInt (by omega), e4_2]; rfl) (by decide) ?_
    exfalso; omega
  by_cases e4_3 : F 4 (12 * (c : Int) + (s : Int)) = 3
  · refine w_tswI (tgt := 47) (off := 43) b dX0_added_4 (by rw [iI_toInt (by omega)]; omega) (by rw [iI_toInt (by omega)]; omega) (by rw [iI_toInt (by omega), e4_3]; rfl) (by decide) ?_
    exfalso; omega
  by_cases e4_4 : F 4 (12 * (c : Int) + (s : Int)) = 4
  · refine w_tswI (tgt := 54) (off := 50) b dX0_added_4 (by rw [iI_toInt (by omega)]; omega) (by rw [iI_toInt (by omega)]; omega) (by rw [iI_toInt (by omega), e4_4]; rfl) (by decide) ?_
    refine w_aload_n b dX0_added_54 rfl rfl ?_
    refine w_aload_n b dX0_added_55 rfl rfl ?_
    refine w_getf b dX0_added_56 lfX0_79 ((hD.cM bg).step hc hs) rfl ?_
    refine w_iload_n b dX0_added_59 rfl ?_
    refine w_iload_n b dX0_added_60 rfl ?_
    refine z_isub b dX0_added_61 ?_
    refine w_iload b dX0_added_62 rfl ?_
    refine w_iload_n b dX0_added_64 rfl ?_
    refine z_iadd b dX0_added_65 ?_
    refine w_iload b dX0_added_66 rfl ?_
    refine z_iconst b dX0_added_68 ?_
    refine z_iadd b dX0_added_69 ?_
    rw [hn]
    refine w_callV (d' := 2 * e + 4) (mc' := 0) (ms' := 0) (st := []) (vs := [.int (iI (n : Int)), .int (iI (room - own1)), .int (iI (bf + own1)), .int (iI (dp + 1))]) b dX0_added_70 lmX0_68 rfl rfl (cpS (tlt rfl) ct_230) (tle rfl) (by omega) (by omega) (by omega) (ihe n (room - own1) (bf + own1) (dp + 1) bg en (by omega) (by omega) (by omega) (by omega) (by omega) hbg) (fun r σ' hq => ?_)
    obtain ⟨bg1, en1, q1, q2, q3, q4⟩ := hq
    subst q2
    rw [if_neg (show ¬ dp + 1 = 0 by omega)] at q4
    cases ho2 : ms (F 3) (F 4) (F 5) e (n : Int) (room - own1) (bf + own1, bg) with
    | none =>
      obtain rfl := q3 ho2
      exact w_iret b dX0_added_73 rfl (by omega) (by omega) ⟨bg1, en1, q1, rfl, fun _ => rfl, fun p hp => by cases hp⟩
    | some p =>
      obtain ⟨p1, p2, p3, p4⟩ := q4 p ho2
      subst p2
      exact w_iret b dX0_added_73 rfl (by omega) (by omega) ⟨bg1, en1, q1, rfl, fun z => (by cases z), fun p' hp => by cases hp; exact ⟨p1, rfl, p3, p4⟩⟩
  refine w_tswO (tgt := 74) b dX0_added_4 (by rw [iI_toInt (by omega)]; omega) (by decide) ?_
  exfalso; omega
set_option maxRecDepth 20000 in
theorem l_X0_measure {X : Cx} {Q : Option Value → Sg → Prop} {l0 : Launch} {g : Gw} {w nx : Nat} {h : Nat → va_E} {C : Nat → Nat → Int} {A : Nat → Int → Int} {V : Nat → Value} {I : Nat → Int} {F : Nat → Int → Int} {ca : Nat → Nat} {sa : Nat → Nat → Nat} {own : Nat → Nat} {e c : Nat} {room bf dp : Int} (hD : RDy h nx C V I F ca sa own) (hc : (c : Int) < I 2) (ihe : ∀ (c : Nat) (room bf dp bg : Int) (en : Int → Int), c < e → (c : Int) < I 2 → (0 ≤ dp ∧ dp + c ≤ 11) → (-1000 * dp ≤ room ∧ room ≤ 40) → (0 ≤ bf ∧ bf ≤ 1000) → (0 ≤ bg ∧ bg ≤ 1000) → MM l0 g (2 * e + 4) mX0_measure (cp w (cM C bg) (aM A en) V h, nx) [.ref 230, .int (iI (c : Int)), .int (iI room), .int (iI bf), .int (iI dp)] 0 0 (mQ w nx C A V h bf (ms (F 3) (F 4) (F 5) e (c : Int) room (bf, bg)) (if dp = 0 then edM (F 5) (F 4) (ms (F 3) (F 4) (F 5) (e - 1)) (c : Int) bf room (F 3 (c : Int)).toNat 0 (bf, bg) en else en))) (hce : c < e + 1) (hbf : 0 ≤ bf ∧ bf ≤ 1000) (hdp : 0 ≤ dp ∧ dp + c ≤ 11) (hr : -1000 * dp ≤ room ∧ room ≤ 40) (b : BX X l0 g mX0_measure (2 * e + 6) 0 0) : ∀ (n s : Nat) (own1 bg : Int) (en : Int → Int), ((s : Int) + n = F 3 (c : Int)) → (0 ≤ own1 ∧ bf + own1 ≤ 1000) → (0 ≤ bg ∧ bg ≤ 1000) → (∀ r σ', mQ w nx C A V h bf (msL (F 5) (F 4) (ms (F 3) (F 4) (F 5) e) (c : Int) bf room n (s : Int) (bf + own1, bg)) (if dp = 0 then edM (F 5) (F 4) (ms (F 3) (F 4) (F 5) e) (c : Int) bf room n (s : Int) (bf + own1, bg) en else en) r σ' → Q r σ') → WW X g mX0_measure.2.2.1 (ZQ X g Q 0 0) 0 0 40 [some (.ref 230), some (.int (iI ((c : Int)))), some (.int (iI (room))), some (.int (iI (bf))), some (.int (iI (dp))), some (.ref (ca c + 1)), some (.int (iI (own1))), some (.int (iI ((s : Int)))), none] [] (cp w (cM C bg) (aM A en) V h, nx) := by
  have hn2 := hD.n2
  have hwf := hD.wf c (by omega) hc
  intro n
  induction n with
  | zero =>
    intro s own1 bg en h1 ho hbg hq
    obtain ⟨m9, v9, e0, e9⟩ := (hD.cM bg).list (w := w) (A := aM A en) hc
    refine w_iload b dX0_measure_40 rfl ?_
    refine w_aload b dX0_measure_42 rfl rfl ?_
    refine c_V0 b dX0_measure_44 lmX0_34 e0 (k_sizeS (hD.cM bg) hc) (tle rfl) (by omega) (by omega) (by omega) ?_
    refine z_icmp_ge (tgt := 153) b dX0_measure_47 (by decide) (by omega) (fun c47 => ?_) (fun c47 => ?_)
    · refine w_iload b dX0_measure_153 rfl ?_
      exact w_iret b dX0_measure_155 rfl (by omega) (by omega) (hq _ _ ⟨bg, en, hbg, rfl, fun z => (by cases z), fun p hp => by cases hp; exact ⟨⟨by show bf ≤ bf + own1; omega, ho.2⟩, iv_eq (by show own1 = bf + own1 - bf; omega), rfl, (by split <;> rfl)⟩⟩)
    · exfalso; omega
  | succ n ih =>
    intro s own1 bg en h1 ho hbg hq
    obtain ⟨m9, v9, e0, e9⟩ := (hD.cM bg).list (w := w) (A := aM A en) hc
    obtain ⟨m8, v8, e1, e8⟩ := (hD.cM (bg + 1)).list (w := w) (A := aM A en) hc
    have hs : (s : Int) < F 3 (c : Int) := by omega
    have hw5 := hwf.2 s (by omega) hs
    refine w_iload b dX0_measure_40 rfl ?_
    refine w_aload b dX0_measure_42 rfl rfl ?_
    refine c_V0 b dX0_measure_44 lmX0_34 e0 (k_sizeS (hD.cM bg) hc) (tle rfl) (by omega) (by omega) (by omega) ?_
    refine z_icmp_ge (tgt := 153) b dX0_measure_47 (by decide) (by omega) (fun c47 => ?_) (fun c47 => ?_)
    · exfalso; omega
    · refine w_aload_n b dX0_measure_50 rfl rfl ?_
      refine q_get (v := .int (iI bg)) b dX0_measure_51 lfX0_65 (tlt rfl) ct_230 rfl ?_
      refine z_sipush b dX0_measure_54 (by decide) ?_
      refine z_icmp_lt (tgt := 63) b dX0_measure_57 (by decide) (by omega) (fun c57 => ?_) (fun c57 => ?_)
      · refine w_aload_n b dX0_measure_63 rfl rfl ?_
        refine w_dup b dX0_measure_64 rfl ?_
        refine q_get (v := .int (iI bg)) b dX0_measure_65 lfX0_65 (tlt rfl) ct_230 rfl ?_
        refine z_iconst b dX0_measure_68 ?_
        refine z_iadd b dX0_measure_69 ?_
        refine q_put b dX0_measure_70 lfX0_65 gcX0 gtX0_6 (tlt rfl) (fun _ => ct_230) (tlt rfl) rfl ?_
        rw [cM_put]
        refine w_aload_n b dX0_measure_73 rfl rfl ?_
        refine w_aload b dX0_measure_74 rfl rfl ?_
        refine w_iload b dX0_measure_76 rfl ?_
        refine c_V1 b dX0_measure_78 lmX0_42 e1 (k_getS (hD.cM (bg + 1)) hc hs) (tle rfl) (by omega) (by omega) (by omega) ?_
        refine w_castS (ci := 5) b dX0_measure_81 rfl lcX0_51 ((hD.cM (bg + 1)).step hc hs) ?_
        refine w_iload b dX0_measure_84 rfl ?_
        refine w_iload_n b dX0_measure_86 rfl ?_
        refine w_iload_n b dX0_measure_87 rfl ?_
        refine w_iload b dX0_measure_88 rfl ?_
        have hbg1 : bg + 1 ≤ 1000 := by omega
        by_cases hk4 : F 4 (12 * (c : Int) + (s : Int)) = 4
        · refine w_callV (d' := 2 * e + 5) (mc' := 0) (ms' := 0) (st := []) (vs := [.ref (sa c s), .int (iI own1), .int (iI room), .int (iI bf), .int (iI dp)]) b dX0_measure_90 lmX0_72 rfl rfl (cpS (tlt rfl) ct_230) (tle rfl) (by omega) (by omega) (by omega) (k_X0_added1 hD hc hs ihe hce ho hbf.1 (by omega) hdp hr hk4) (fun r σ' hq9 => ?_)
          obtain ⟨bg1, en1, q1, q2, q3, q4⟩ := hq9
          subst q2
          have hS0 : msS (F 5) (F 4) (ms (F 3) (F 4) (F 5) e) (12 * (c : Int) + (s : Int)) bf room (bf + own1, bg) = ms (F 3) (F 4) (F 5) e (F 5 (12 * (c : Int) + (s : Int))) (room - own1) (bf + own1, bg + 1) := by
            unfold msS
            rw [if_neg (by show ¬ 1000 < bg + 1; omega), if_pos hk4]
            show ms _ _ _ e _ (room - (bf + own1 - bf)) _ = _
            rw [show bf + own1 - bf = own1 by omega]
          cases ho2 : ms (F 3) (F 4) (F 5) e (F 5 (12 * (c : Int) + (s : Int))) (room - own1) (bf + own1, bg + 1) with
          | none =>
            obtain rfl := q3 ho2
            have hm := msL_none (n := n) (hS0.trans ho2)
            refine w_istore b dX0_measure_93 (tlt rfl) rfl ?_
            refine w_iload b dX0_measure_95 rfl ?_
            refine z_if_lt (tgt := 113) b dX0_measure_97 (by decide) (by omega) (fun c97 => ?_) (fun c97 => ?_)
            · refine z_bipush b dX0_measure_113 (by decide) ?_
              exact w_iret b dX0_measure_115 rfl (by omega) (by omega) (hq _ _ ⟨bg1, en1, q1, rfl, fun _ => rfl, fun p hp => by rw [hm] at hp; cases hp⟩)
            · exfalso; omega
          | some p =>
            obtain ⟨p1, p2, p3, p4⟩ := q4 p ho2
            subst p2
            rw [p4]
            obtain ⟨pa, pb⟩ := p
            have p3 : bg1 = pb := p3
            subst p3
            have hS : msS (F 5) (F 4) (ms (F 3) (F 4) (F 5) e) (12 * (c : Int) + (s : Int)) bf room (bf + own1, bg) = some (bf + (own1 + (pa - (bf + own1))), bg1) := by
              rw [hS0, ho2, show bf + (own1 + (pa - (bf + own1))) = pa by omega]
            have p1 : bf + own1 ≤ pa ∧ pa ≤ 1000 := p1
            change WW X g _ _ _ _ _ _ [.int (iI (pa - (bf + own1)))] _
            refine w_istore b dX0_measure_93 (tlt rfl) rfl ?_
            refine w_iload b dX0_measure_95 rfl ?_
            refine z_if_lt (tgt := 113) b dX0_measure_97 (by decide) (by omega) (fun c97 => ?_) (fun c97 => ?_)
            · exfalso; omega
            · refine w_iload_n b dX0_measure_100 rfl ?_
              refine w_iload b dX0_measure_101 rfl ?_
              refine z_iadd b dX0_measure_103 ?_
              refine w_iload b dX0_measure_104 rfl ?_
              refine z_iadd b dX0_measure_106 ?_
              refine z_sipush b dX0_measure_107 (by decide) ?_
              refine z_icmp_le (tgt := 116) b dX0_measure_110 (by decide) (by omega) (fun c110 => ?_) (fun c110 => ?_)
              · refine w_iload b dX0_measure_116 rfl ?_
                refine w_iload b dX0_measure_118 rfl ?_
                refine z_iadd b dX0_measure_120 ?_
                refine w_istore b dX0_measure_121 (tlt rfl) rfl ?_
                refine w_iload b dX0_measure_123 rfl ?_
                refine z_if_ne (tgt := 147) b dX0_measure_125 (by decide) (by omega) (fun c125 => ?_) (fun c125 => ?_)
                · have hq2 : ∀ r σ', mQ w nx C A V h bf (msL (F 5) (F 4) (ms (F 3) (F 4) (F 5) e) (c : Int) bf room n ((s + 1 : Nat) : Int) (bf + (own1 + (pa - (bf + own1))), bg1)) (if dp = 0 then edM (F 5) (F 4) (ms (F 3) (F 4) (F 5) e) (c : Int) bf room n ((s + 1 : Nat) : Int) (bf + (own1 + (pa - (bf + own1))), bg1) en else en) r σ' → Q r σ' := by
                    intro r σ' hz
                    apply hq
                    rw [msL_some hS, if_neg c125]
                    rw [if_neg c125] at hz
                    exact hz
                  refine z_iinc b dX0_measure_147 rfl rfl rfl ?_
                  refine w_goto (tgt := 40) b dX0_measure_150 (by decide) ?_
                  refine ww_forget 8 ?_
                  exact ih (s + 1) (own1 + (pa - (bf + own1))) bg1 en (by omega) (by omega) (by omega) hq2
                · have hq2 : ∀ r σ', mQ w nx C A V h bf (msL (F 5) (F 4) (ms (F 3) (F 4) (F 5) e) (c : Int) bf room n ((s + 1 : Nat) : Int) (bf + (own1 + (pa - (bf + own1))), bg1)) (if dp = 0 then edM (F 5) (F 4) (ms (F 3) (F 4) (F 5) e) (c : Int) bf room n ((s + 1 : Nat) : Int) (bf + (own1 + (pa - (bf + own1))), bg1) (fu en (s : Int) (own1 + (pa - (bf + own1)))) else fu en (s : Int) (own1 + (pa - (bf + own1)))) r σ' → Q r σ' := by
                    intro r σ' hz
                    apply hq
                    rw [msL_some hS, if_pos c125, edM_some hS, show (bf + (own1 + (pa - (bf + own1))), bg1).1 - bf = own1 + (pa - (bf + own1)) from (by show bf + (own1 + (pa - (bf + own1))) - bf = _; omega)]
                    rw [if_pos c125] at hz
                    exact hz
                  refine w_iload b dX0_measure_128 rfl ?_
                  refine w_aload_n b dX0_measure_130 rfl rfl ?_
                  refine q_get b dX0_measure_131 lfX0_22 (tlt rfl) ct_230 rfl ?_
                  refine q_alen b dX0_measure_134 (tlt rfl) ct_233 (tlt rfl) ?_
                  refine z_icmp_ge (tgt := 147) b dX0_measure_135 (by decide) (by omega) (fun c135 => ?_) (fun c135 => ?_)
                  · exfalso; omega
                  · refine w_aload_n b dX0_measure_138 rfl rfl ?_
                    refine q_get b dX0_measure_139 lfX0_22 (tlt rfl) ct_230 rfl ?_
                    refine w_iload b dX0_measure_142 rfl ?_
                    refine w_iload b dX0_measure_144 rfl ?_
                    refine q_iast b dX0_measure_146 (tlt rfl) (fun _ => ct_233) (by omega) ?_
                    rw [aM_put]
                    refine z_iinc b dX0_measure_147 rfl rfl rfl ?_
                    refine w_goto (tgt := 40) b dX0_measure_150 (by decide) ?_
                    refine ww_forget 8 ?_
                    exact ih (s + 1) (own1 + (pa - (bf + own1))) bg1 (fu en (s : Int) (own1 + (pa - (bf + own1)))) (by omega) (by omega) (by omega) hq2
              · exfalso; omega
        · refine c_V5 b dX0_measure_90 lmX0_72 (cpS (tlt rfl) ct_230) (k_X0_added0 (hD.cM (bg + 1)) hc hs (by omega) (by omega) hk4) (tle rfl) (by omega) (by omega) (by omega) ?_
          have ham := amF_nn2 (k := F 4 (12 * (c : Int) + (s : Int))) (n := F 5 (12 * (c : Int) + (s : Int))) (own := own1) (wide := room) (fun z => z.elim (fun q => (hw5.2.1 q).1) (fun q => (hw5.2.2.1 (Or.inl q)).1)) ho.1
          have ham2 : amF (F 4 (12 * (c : Int) + (s : Int))) (F 5 (12 * (c : Int) + (s : Int))) own1 room ≤ 100000 := by
            unfold amF
            split
            · have := hw5.2.1 (by assumption); omega
            · split
              · omega
              · split
                · have := (hw5.2.2.1 (Or.inl (by assumption))).2
                  have q1 := Int.mul_le_mul (show own1 ≤ 1000 by omega) this (by have := (hw5.2.2.1 (Or.inl (by assumption))).1; omega) (by decide)
                  omega
                · split <;> omega
          generalize hge : amF (F 4 (12 * (c : Int) + (s : Int))) (F 5 (12 * (c : Int) + (s : Int))) own1 room = am at ham ham2 ⊢
          by_cases hfit : bf + own1 + am ≤ 1000
          · have hS : msS (F 5) (F 4) (ms (F 3) (F 4) (F 5) e) (12 * (c : Int) + (s : Int)) bf room (bf + own1, bg) = some (bf + (own1 + am), bg + 1) := by
              unfold msS
              rw [if_neg (by show ¬ 1000 < bg + 1; omega), if_neg hk4]
              show (if bf + own1 + amF _ _ (bf + own1 - bf) room ≤ 1000 then some (bf + own1 + amF _ _ (bf + own1 - bf) room, bg + 1) else none) = _
              rw [show bf + own1 - bf = own1 by omega, hge, if_pos hfit, Int.add_assoc]
            refine w_istore b dX0_measure_93 (tlt rfl) rfl ?_
            refine w_iload b dX0_measure_95 rfl ?_
            refine z_if_lt (tgt := 113) b dX0_measure_97 (by decide) (by omega) (fun c97 => ?_) (fun c97 => ?_)
            · exfalso; omega
            · refine w_iload_n b dX0_measure_100 rfl ?_
              refine w_iload b dX0_measure_101 rfl ?_
              refine z_iadd b dX0_measure_103 ?_
              refine w_iload b dX0_measure_104 rfl ?_
              refine z_iadd b dX0_measure_106 ?_
              refine z_sipush b dX0_measure_107 (by decide) ?_
              refine z_icmp_le (tgt := 116) b dX0_measure_110 (by decide) (by omega) (fun c110 => ?_) (fun c110 => ?_)
              · refine w_iload b dX0_measure_116 rfl ?_
                refine w_iload b dX0_measure_118 rfl ?_
                refine z_iadd b dX0_measure_120 ?_
                refine w_istore b dX0_measure_121 (tlt rfl) rfl ?_
                refine w_iload b dX0_measure_123 rfl ?_
                refine z_if_ne (tgt := 147) b dX0_measure_125 (by decide) (by omega) (fun c125 => ?_) (fun c125 => ?_)
                · have hq2 : ∀ r σ', mQ w nx C A V h bf (msL (F 5) (F 4) (ms (F 3) (F 4) (F 5) e) (c : Int) bf room n ((s + 1 : Nat) : Int) (bf + (own1 + am), (bg + 1))) (if dp = 0 then edM (F 5) (F 4) (ms (F 3) (F 4) (F 5) e) (c : Int) bf room n ((s + 1 : Nat) : Int) (bf + (own1 + am), (bg + 1)) en else en) r σ' → Q r σ' := by
                    intro r σ' hz
                    apply hq
                    rw [msL_some hS, if_neg c125]
                    rw [if_neg c125] at hz
                    exact hz
                  refine z_iinc b dX0_measure_147 rfl rfl rfl ?_
                  refine w_goto (tgt := 40) b dX0_measure_150 (by decide) ?_
                  refine ww_forget 8 ?_
                  exact ih (s + 1) (own1 + am) (bg + 1) en (by omega) (by omega) (by omega) hq2
                · have hq2 : ∀ r σ', mQ w nx C A V h bf (msL (F 5) (F 4) (ms (F 3) (F 4) (F 5) e) (c : Int) bf room n ((s + 1 : Nat) : Int) (bf + (own1 + am), (bg + 1))) (if dp = 0 then edM (F 5) (F 4) (ms (F 3) (F 4) (F 5) e) (c : Int) bf room n ((s + 1 : Nat) : Int) (bf + (own1 + am), (bg + 1)) (fu en (s : Int) (own1 + am)) else fu en (s : Int) (own1 + am)) r σ' → Q r σ' := by
                    intro r σ' hz
                    apply hq
                    rw [msL_some hS, if_pos c125, edM_some hS, show (bf + (own1 + am), (bg + 1)).1 - bf = own1 + am from (by show bf + (own1 + am) - bf = _; omega)]
                    rw [if_pos c125] at hz
                    exact hz
                  refine w_iload b dX0_measure_128 rfl ?_
                  refine w_aload_n b dX0_measure_130 rfl rfl ?_
                  refine q_get b dX0_measure_131 lfX0_22 (tlt rfl) ct_230 rfl ?_
                  refine q_alen b dX0_measure_134 (tlt rfl) ct_233 (tlt rfl) ?_
                  refine z_icmp_ge (tgt := 147) b dX0_measure_135 (by decide) (by omega) (fun c135 => ?_) (fun c135 => ?_)
                  · exfalso; omega
                  · refine w_aload_n b dX0_measure_138 rfl rfl ?_
                    refine q_get b dX0_measure_139 lfX0_22 (tlt rfl) ct_230 rfl ?_
                    refine w_iload b dX0_measure_142 rfl ?_
                    refine w_iload b dX0_measure_144 rfl ?_
                    refine q_iast b dX0_measure_146 (tlt rfl) (fun _ => ct_233) (by omega) ?_
                    rw [aM_put]
                    refine z_iinc b dX0_measure_147 rfl rfl rfl ?_
                    refine w_goto (tgt := 40) b dX0_measure_150 (by decide) ?_
                    refine ww_forget 8 ?_
                    exact ih (s + 1) (own1 + am) (bg + 1) (fu en (s : Int) (own1 + am)) (by omega) (by omega) (by omega) hq2
              · exfalso; omega
          · have hm := msL_none (n := n) (show msS (F 5) (F 4) (ms (F 3) (F 4) (F 5) e) (12 * (c : Int) + (s : Int)) bf room (bf + own1, bg) = none by
              unfold msS
              rw [if_neg (by show ¬ 1000 < bg + 1; omega), if_neg hk4]
              show (if bf + own1 + amF _ _ (bf + own1 - bf) room ≤ 1000 then some (bf + own1 + amF _ _ (bf + own1 - bf) room, bg + 1) else none) = _
              rw [show bf + own1 - bf = own1 by omega, hge, if_neg hfit])
            refine w_istore b dX0_measure_93 (tlt rfl) rfl ?_
            refine w_iload b dX0_measure_95 rfl ?_
            refine z_if_lt (tgt := 113) b dX0_measure_97 (by decide) (by omega) (fun c97 => ?_) (fun c97 => ?_)
            · exfalso; omega
            · refine w_iload_n b dX0_measure_100 rfl ?_
              refine w_iload b dX0_measure_101 rfl ?_
              refine z_iadd b dX0_measure_103 ?_
              refine w_iload b dX0_measure_104 rfl ?_
              refine z_iadd b dX0_measure_106 ?_
              refine z_sipush b dX0_measure_107 (by decide) ?_
              refine z_icmp_le (tgt := 116) b dX0_measure_110 (by decide) (by omega) (fun c110 => ?_) (fun c110 => ?_)
              · exfalso; omega
              · refine z_bipush b dX0_measure_113 (by decide) ?_
                exact w_iret b dX0_measure_115 rfl (by omega) (by omega) (hq _ _ ⟨bg + 1, en, by omega, rfl, fun _ => rfl, fun p hp => by rw [hm] at hp; cases hp⟩)
      · have hm := msL_none (n := n) (show msS (F 5) (F 4) (ms (F 3) (F 4) (F 5) e) (12 * (c : Int) + (s : Int)) bf room (bf + own1, bg) = none from if_pos (by show 1000 < bg + 1; omega))
        refine z_bipush b dX0_measure_60 (by decide) ?_
        exact w_iret b dX0_measure_62 rfl (by omega) (by omega) (hq _ _ ⟨bg, en, by omega, rfl, fun _ => rfl, fun p hp => by rw [hm] at hp; cases hp⟩)
set_option maxRecDepth 20000 in
theorem k_X0_measure {l0 : Launch} {g : Gw} {w nx : Nat} {h : Nat → va_E} {C : Nat → Nat → Int} {A : Nat → Int → Int} {V : Nat → Value} {I : Nat → Int} {F : Nat → Int → Int} {ca : Nat → Nat} {sa : Nat → Nat → Nat} {own : Nat → Nat} (hD : RDy h nx C V I F ca sa own) : ∀ (e c : Nat) (room bf dp bg : Int) (en : Int → Int), c < e → (c : Int) < I 2 → (0 ≤ dp ∧ dp + c ≤ 11) → (-1000 * dp ≤ room ∧ room ≤ 40) → (0 ≤ bf ∧ bf ≤ 1000) → (0 ≤ bg ∧ bg ≤ 1000) → MM l0 g (2 * e + 4) mX0_measure (cp w (cM C bg) (aM A en) V h, nx) [.ref 230, .int (iI (c : Int)), .int (iI room), .int (iI bf), .int (iI dp)] 0 0 (mQ w nx C A V h bf (ms (F 3) (F 4) (F 5) e (c : Int) room (bf, bg)) (if dp = 0 then edM (F 5) (F 4) (ms (F 3) (F 4) (F 5) (e - 1)) (c : Int) bf room (F 3 (c : Int)).toNat 0 (bf, bg) en else en)) := by
  intro e
  induction e with
  | zero => intro c room bf dp bg en h1; omega
  | succ e ihe =>
    intro c room bf dp bg en hce hc hdp hr hbf hbg
    have hn2 := hD.n2
    have hwf := (hD.wf c (by omega) hc).1
    refine MM.of (by decide +kernel) (by simp [Value.category]) (tle rfl) (fun X b => ?_)
    change WW X g _ _ 0 0 0 [some (.ref 230), some (.int (iI ((c : Int)))), some (.int (iI (room))), some (.int (iI (bf))), some (.int (iI (dp))), none, none, none, none] [] _
    refine w_iload b dX0_measure_0 rfl ?_
    refine z_bipush b dX0_measure_2 (by decide) ?_
    refine z_icmp_gt (tgt := 15) b dX0_measure_4 (by decide) (by omega) (fun c4 => ?_) (fun c4 => ?_)
    · exfalso; omega
    · refine w_aload_n b dX0_measure_7 rfl rfl ?_
      refine w_iload_n b dX0_measure_8 rfl ?_
      refine c_V1 b dX0_measure_9 lmX0_38 (cpS (tlt rfl) ct_230) (k_X0_hasChant (hD.cM bg) (by omega)) (tle rfl) (by omega) (by omega) (by omega) ?_
      refine z_ifb_ne (tgt := 18) b dX0_measure_12 (by decide) (fun c12 => ?_) (fun c12 => ?_)
      · refine w_aload_n b dX0_measure_18 rfl rfl ?_
        refine q_get b dX0_measure_19 lfX0_12 (tlt rfl) ct_230 rfl ?_
        refine w_iload_n b dX0_measure_22 rfl ?_
        refine c_V1 b dX0_measure_23 lmX0_42 (cpS (tlt rfl) ct_231) (k_getC (hD.cM bg) hc) (tle rfl) (by omega) (by omega) (by omega) ?_
        refine w_castS (ci := 2) b dX0_measure_26 rfl lcX0_46 ((hD.cM bg).chant hc) ?_
        refine w_getf b dX0_measure_29 lfX0_48 ((hD.cM bg).chant hc) rfl ?_
        refine w_astore b dX0_measure_32 (tlt rfl) rfl rfl ?_
        refine z_iconst b dX0_measure_34 ?_
        refine w_istore b dX0_measure_35 (tlt rfl) rfl ?_
        refine z_iconst b dX0_measure_37 ?_
        refine w_istore b dX0_measure_38 (tlt rfl) rfl ?_
        refine l_X0_measure hD hc ihe hce hbf hdp hr b (F 3 (c : Int)).toNat 0 0 bg en (by omega) (by omega) hbg (fun r σ' hz => ?_)
        rw [Int.add_zero] at hz
        exact hz
      · exfalso; omega
set_option maxRecDepth 20000 in
theorem k_X0_measured {l0 : Launch} {g : Gw} {w nx : Nat} {h : Nat → va_E} {C : Nat → Nat → Int} {A : Nat → Int → Int} {V : Nat → Value} {I : Nat → Int} {F : Nat → Int → Int} {ca : Nat → Nat} {sa : Nat → Nat → Nat} {own : Nat → Nat} {c : Nat} (hD : RDy h nx C V I F ca sa own) (hc : (c : Int) < I 2) (hw : 4 ≤ w ∧ w ≤ 40) : MM l0 g 29 mX0_measured (cp w C A V h, nx) [.ref 230, .int (iI (c : Int))] 0 0 (mQ w nx C A V h 0 (ms (F 3) (F 4) (F 5) 12 (c : Int) (w : Int) (0, 0)) (edM (F 5) (F 4) (ms (F 3) (F 4) (F 5) 11) (c : Int) 0 (w : Int) (F 3 (c : Int)).toNat 0 (0, 0) (A 233))) := by
  have hn2 := hD.n2
  refine MM.of (by decide +kernel) (by simp [Value.category]) (tle rfl) (fun X b => ?_)
  change WW X g _ _ 0 0 0 [some (.ref 230), some (.int (iI ((c : Int))))] [] _
  refine w_aload_n b dX0_measured_0 rfl rfl ?_
  refine z_iconst b dX0_measured_1 ?_
  refine q_put b dX0_measured_2 lfX0_65 gcX0 gtX0_6 (tlt rfl) (fun _ => ct_230) (tlt rfl) rfl ?_
  change WW X g _ _ _ _ _ _ _ (cp w (cM C 0) A V h, nx)
  refine w_aload_n b dX0_measured_5 rfl rfl ?_
  refine w_iload_n b dX0_measured_6 rfl ?_
  refine w_aload_n b dX0_measured_7 rfl rfl ?_
  refine q_get b dX0_measured_8 lfX0_26 (tlt rfl) ct_230 rfl ?_
  refine z_iconst b dX0_measured_11 ?_
  refine z_iconst b dX0_measured_12 ?_
  have eA : cp w (cM C 0) A V h = cp w (cM C 0) (aM A (A 233)) V h := by rw [aM_self]
  rw [eA]
  refine w_callV (d' := 28) (mc' := 0) (ms' := 0) (st := []) (vs := [.int (iI (c : Int)), .int (iI (w : Int)), .int (iI 0), .int (iI 0)]) b dX0_measured_13 lmX0_68 rfl rfl (cpS (tlt rfl) ct_230) (tle rfl) (by omega) (by omega) (by omega) (k_X0_measure hD 12 c w 0 0 0 (A 233) (by omega) hc (by omega) (by omega) (by omega) (by omega)) (fun r σ' hq => ?_)
  obtain ⟨bg1, en1, q1, q2, q3, q4⟩ := hq
  subst q2
  cases ho2 : ms (F 3) (F 4) (F 5) 12 (c : Int) (w : Int) (0, 0) with
  | none =>
    obtain rfl := q3 ho2
    exact w_iret b dX0_measured_16 rfl (by omega) (by omega) ⟨bg1, en1, q1, rfl, fun _ => rfl, fun p hp => by cases hp⟩
  | some p =>
    obtain ⟨p1, p2, p3, p4⟩ := q4 p ho2
    subst p2
    exact w_iret b dX0_measured_16 rfl (by omega) (by omega) ⟨bg1, en1, q1, rfl, fun z => (by cases z), fun p' hp => by cases hp; exact ⟨p1, rfl, p3, p4⟩⟩
