/-! CLASS AND REFERENCE: calls of chants (by p92.py) -/
set_option maxRecDepth 20000 in
theorem k_X8_mendB {l0 : Launch} {g : Gw} {w nx : Nat} {h : Nat → va_E} {C : Nat → Nat → Int} {A : Nat → Int → Int} {V : Nat → Value} {I : Nat → Int} {F : Nat → Int → Int} {ca : Nat → Nat} {sa : Nat → Nat → Nat} {own : Nat → Nat} {c k : Int} (hD : RDy h nx C V I F ca sa own) (hci : inR c) (hk : inR k) (hb : ¬ (0 ≤ k ∧ k ≤ 1)) : MD l0 g 3 mX8_mend (cp w C A V h, nx) [.ref 0, .int (iI (c)), .int (iI (k))] 0 0 (some (.int (iI (-1)))) (cp w C A V h, nx) := by
  have hn2 := hD.n2
  refine MD.of (by decide +kernel) (by simp [Value.category]) (tle rfl) (fun X b => ?_)
  change WW X g _ _ 0 0 0 [some (.ref 0), some (.int (iI (c))), some (.int (iI (k))), none] [] _
  refine w_aload_n b dX8_mend_0 rfl rfl ?_
  refine q_get b dX8_mend_1 lfX8_33 (tlt rfl) ct_0 rfl ?_
  refine w_iload_n b dX8_mend_4 rfl ?_
  refine c_V1 b dX8_mend_5 lmX8_63 (cpS (tlt rfl) ct_230) (k_X0_hasChant hD (by omega)) (tle rfl) (by omega) (by omega) (by omega) ?_
  refine z_ifb_eq (tgt := 20) b dX8_mend_8 (by decide) (fun c8 => ?_) (fun c8 => ?_)
  · refine z_iconst b dX8_mend_20 ?_
    exact w_iret b dX8_mend_21 rfl (by omega) (by omega) ⟨iv_eq (by first | rfl | omega | ((try simp only [b2]); ((repeat' split) <;> (first | rfl | omega)))), rfl⟩
  · refine w_iload_n b dX8_mend_11 rfl ?_
    refine z_iconst b dX8_mend_12 ?_
    refine z_iconst b dX8_mend_13 ?_
    refine c_S3 b dX8_mend_14 lmX8_74 (k_X8_isWithin (by omega) (by omega) (by omega)) (tle rfl) (by omega) (by omega) (by omega) ?_
    refine z_ifb_ne (tgt := 22) b dX8_mend_17 (by decide) (fun c17 => ?_) (fun c17 => ?_)
    · exfalso; omega
    · refine z_iconst b dX8_mend_20 ?_
      exact w_iret b dX8_mend_21 rfl (by omega) (by omega) ⟨iv_eq (by first | rfl | omega | ((try simp only [b2]); ((repeat' split) <;> (first | rfl | omega)))), rfl⟩
theorem RSx.sc {w : Nat} {C : Nat → Nat → Int} {A : Nat → Int → Int} {V : Nat → Value} {h : Nat → va_E} {nx : Nat} {I : Nat → Int} {F : Nat → Int → Int} {ca : Nat → Nat} {sa : Nat → Nat → Nat} {own : Nat → Nat} {C' : Nat → Nat → Int} {A' : Nat → Int → Int} (hS : RSx w C A V h nx I F ca sa own) (hs : scC C A C' A') : RSx w C' A' V h nx I F ca sa own := by
  have hca := hS.ca.sc hs
  have hdy := hS.dy.sc hs
  obtain ⟨u, kn, en, e1, e2, e3⟩ := hs
  subst e1 e2
  have hA : ∀ q, q ≠ 232 → q ≠ 233 → va_up (va_up A 232 kn) 233 en q = A q := fun q q1 q2 => by rw [va_up_ne _ _ q2, va_up_ne _ _ q1]
  exact ⟨hdy, hca, hS.sh.cong (fun q q1 _ => va_up_ne _ _ (by omega)) (fun q q1 _ => hA q (by omega) (by omega)) (fun _ _ _ => rfl) (Nat.le_refl _) (fun _ _ _ q => ⟨q, rfl⟩) rfl rfl rfl rfl rfl rfl, hS.vi.cong rfl (hA _ (by decide) (by decide)) (hA _ (by decide) (by decide)) (hA _ (by decide) (by decide)) (hA _ (by decide) (by decide)) rfl rfl, hS.c7, by rw [va_up_ne _ _ (by decide), va_up_self]; exact e3 hS.k7, hS.h3, hS.nx, hS.out⟩
theorem cS_ne {F : Nat → Int → Int} {f e S T U V : Int → Int} {k : Nat} (hk : k < 7 ∨ 12 < k) : cS F f e S T U V k = F k := by
  unfold cS
  rw [va_up_ne _ _ (by omega), va_up_ne _ _ (by omega), va_up_ne _ _ (by omega), va_up_ne _ _ (by omega), va_up_ne _ _ (by omega), va_up_ne _ _ (by omega)]
theorem RSx.cs {w : Nat} {C : Nat → Nat → Int} {A : Nat → Int → Int} {V : Nat → Value} {h : Nat → va_E} {nx : Nat} {I : Nat → Int} {F : Nat → Int → Int} {ca : Nat → Nat} {sa : Nat → Nat → Nat} {own : Nat → Nat} {I' : Nat → Int} {f e S T U V' : Int → Int} (hS : RSx w C A V h nx I F ca sa own) (h1 : I' 1 = I 1) (h2 : I' 2 = I 2) (h21 : I' 21 = I 21) (h27 : I' 27 = I 27) (h7 : col7 f) : RSx w C A V h nx I' (cS F f e S T U V') ca sa own := by
  refine ⟨hS.dy.cong (fun _ _ => rfl) rfl rfl h2 (cS_ne (.inl (by decide))) (cS_ne (.inl (by decide))) (cS_ne (.inl (by decide))) (cS_ne (.inl (by decide))), hS.ca.cong (fun _ _ => rfl) (fun _ _ => rfl) h1 h21 (cS_ne (.inr (by decide))) (cS_ne (.inr (by decide))) (cS_ne (.inr (by decide))) (cS_ne (.inr (by decide))) (cS_ne (.inr (by decide))) (cS_ne (.inr (by decide))) (cS_ne (.inr (by decide))) (cS_ne (.inr (by decide))) (cS_ne (.inr (by decide))) (cS_ne (.inr (by decide))), hS.sh.cong (fun _ _ _ => rfl) (fun _ _ _ => rfl) (fun _ _ _ => rfl) (Nat.le_refl _) (fun _ _ _ q => ⟨q, rfl⟩) (cS_ne (.inr (by decide))) (cS_ne (.inr (by decide))) (cS_ne (.inr (by decide))) (cS_ne (.inr (by decide))) (cS_ne (.inr (by decide))) (cS_ne (.inr (by decide))), hS.vi.cong rfl rfl rfl rfl rfl h27 (cS_ne (.inr (by decide))), h7, hS.k7, by rw [cS_ne (.inl (by decide))]; exact hS.h3, hS.nx, hS.out⟩
theorem RSx.scr {w : Nat} {C : Nat → Nat → Int} {A : Nat → Int → Int} {V : Nat → Value} {h : Nat → va_E} {nx : Nat} {I : Nat → Int} {F : Nat → Int → Int} {ca : Nat → Nat} {sa : Nat → Nat → Nat} {own : Nat → Nat} {I' : Nat → Int} {F' : Nat → Int → Int} (hS : RSx w C A V h nx I F ca sa own) (hs : scr I F I' F') : RSx w C A V h nx I' F' ca sa own := by
  obtain ⟨a, f, e, S, T, U, V', e1, e2, e3⟩ := hs
  subst e2 e3
  exact hS.cs rfl rfl rfl rfl e1
theorem sim_sc {l0 : Launch} {g : Gw} {w : Nat} {C : Nat → Nat → Int} {A : Nat → Int → Int} {V : Nat → Value} {h : Nat → va_E} {nx : Nat} {I : Nat → Int} {F : Nat → Int → Int} {ca : Nat → Nat} {sa : Nat → Nat → Nat} {own : Nat → Nat} {m8 m9 : Md} {vs : List Value} {d e : Nat} {z : Int} (hS : RSx w C A V h nx I F ca sa own) (hd : d ≤ 40) (he : e ≤ 40) (hM : MM l0 g d m8 (cp w C A V (mp 257 h I F), nx) (.ref 0 :: vs) 0 0 (fun r σ' => r = some (.int (iI z)) ∧ ∃ (C' : Nat → Nat → Int) (A' : Nat → Int → Int), scC C A C' A' ∧ σ' = (cp w C' A' V (mp 257 h I F), nx))) (hN : ∀ (C' : Nat → Nat → Int) (A' : Nat → Int → Int), MM l0 g e m9 (mp 257 (cp w C' A' V h) I F, nx) (.ref 257 :: vs) 0 0 (fun r σ' => r = some (.int (iI z)) ∧ ∃ (I' : Nat → Int) (F' : Nat → Int → Int), (RSx w C A V h nx I F ca sa own → RSx w C A V h nx I' F' ca sa own) ∧ σ' = (mp 257 (cp w C' A' V h) I' F', nx))) : ∃ (d mc ms : Nat) (z : Int) (Q : Sg → Prop), d ≤ 40 ∧ mc ≤ 3 ∧ ms ≤ 19 ∧ MM l0 g d m8 (cp w C A V (mp 257 h I F), nx) (.ref 0 :: vs) mc ms (fun r σ1 => r = some (.int (iI z)) ∧ Q σ1) ∧ ∀ σ1, Q σ1 → ∃ e : Nat, e ≤ 40 ∧ M9 σ1 ∧ MM l0 g e m9 σ1 (.ref 257 :: vs) 0 0 (fun r2 σ2 => r2 = some (.int (iI z)) ∧ WI w σ2) := by
  refine ⟨d, 0, 0, z, fun σ1 => ∃ (C' : Nat → Nat → Int) (A' : Nat → Int → Int), scC C A C' A' ∧ σ1 = (cp w C' A' V (mp 257 h I F), nx), hd, by decide, by decide, hM, fun σ1 hq => ⟨e, he, ?_, ?_⟩⟩
  · obtain ⟨C', A', hs, hq⟩ := hq
    rw [hq]; exact m9_cp
  obtain ⟨C', A', hs, hq⟩ := hq
  rw [hq, cp_mp]
  refine MM.mono (hN C' A') (fun r σ2 q => ⟨q.1, ?_⟩)
  obtain ⟨I', F', h1, h2⟩ := q.2
  exact ⟨C', A', V, h, nx, I', F', ca, sa, own, by rw [h2, cp_mp], (h1 hS).sc hs⟩
theorem mm_md {l0 : Launch} {g : Gw} {w d nx : Nat} {m8 : Md} {vs : List Value} {z : Int} {C : Nat → Nat → Int} {A : Nat → Int → Int} {V : Nat → Value} {h : Nat → va_E} (hM : MD l0 g d m8 (cp w C A V h, nx) vs 0 0 (some (.int (iI z))) (cp w C A V h, nx)) : MM l0 g d m8 (cp w C A V h, nx) vs 0 0 (fun r σ' => r = some (.int (iI z)) ∧ ∃ (C' : Nat → Nat → Int) (A' : Nat → Int → Int), scC C A C' A' ∧ σ' = (cp w C' A' V h, nx)) := MM.mono hM (fun r σ q => ⟨q.1, C, A, scC_refl C A, q.2⟩)
theorem mm_n {l0 : Launch} {g : Gw} {w e nx n : Nat} {m9 : Md} {vs : List Value} {z y : Int} {h0 h : Nat → va_E} {C : Nat → Nat → Int} {A : Nat → Int → Int} {V : Nat → Value} {I : Nat → Int} {F : Nat → Int → Int} {ca : Nat → Nat} {sa : Nat → Nat → Nat} {own : Nat → Nat} (hy : y = z) (hN : MM l0 g e m9 (mp 257 h0 I F, n) vs 0 0 (fun r σ' => r = some (.int (iI y)) ∧ ∃ (I' : Nat → Int) (F' : Nat → Int → Int), scr I F I' F' ∧ σ' = (mp 257 h0 I' F', n))) : MM l0 g e m9 (mp 257 h0 I F, n) vs 0 0 (fun r σ' => r = some (.int (iI z)) ∧ ∃ (I' : Nat → Int) (F' : Nat → Int → Int), (RSx w C A V h nx I F ca sa own → RSx w C A V h nx I' F' ca sa own) ∧ σ' = (mp 257 h0 I' F', n)) := by
  subst hy
  refine MM.mono hN (fun r σ q => ⟨q.1, ?_⟩)
  obtain ⟨I', F', h1, h2⟩ := q.2
  exact ⟨I', F', fun hS => hS.scr h1, h2⟩
theorem mm_d {l0 : Launch} {g : Gw} {w e nx n : Nat} {m9 : Md} {vs : List Value} {z y : Int} {h0 h : Nat → va_E} {C : Nat → Nat → Int} {A : Nat → Int → Int} {V : Nat → Value} {I : Nat → Int} {F : Nat → Int → Int} {ca : Nat → Nat} {sa : Nat → Nat → Nat} {own : Nat → Nat} (hy : y = z) (hN : MD l0 g e m9 (mp 257 h0 I F, n) vs 0 0 (some (.int (iI y))) (mp 257 h0 I F, n)) : MM l0 g e m9 (mp 257 h0 I F, n) vs 0 0 (fun r σ' => r = some (.int (iI z)) ∧ ∃ (I' : Nat → Int) (F' : Nat → Int → Int), (RSx w C A V h nx I F ca sa own → RSx w C A V h nx I' F' ca sa own) ∧ σ' = (mp 257 h0 I' F', n)) := by
  subst hy
  exact MM.mono hN (fun r σ q => ⟨q.1, I, F, id, q.2⟩)
theorem s_length {l0 : Launch} {g : Gw} {w : Nat} {c : Int} (hc : inR c) : SIM l0 g w mX8_length mX9_length [.int (iI c)] := sim_of fun C A V h nx I F ca sa own hS => by
  have w1 := hS.ca.w1
  have n2 := hS.dy.n2
  by_cases b : 0 ≤ c ∧ c < I 2
  · obtain ⟨n, rfl⟩ := Int.eq_ofNat_of_zero_le b.1
    exact sim_sc hS (by decide) (by decide) (k_X8_length hS.dm b.2 hS.ca.w2) (fun C' A' => mm_n (by rw [if_pos (by omega), w1]) (k_X9_length hc hS.dy.n2 hS.ca.t2 hS.ca.i1 hS.ca.b23 hS.dy.wf hS.c7))
  · exact sim_sc hS (by decide) (by decide) (mm_md (k_X8_lengthN hS.dm hc b)) (fun C' A' => mm_n (if_neg (by omega)) (k_X9_length hc hS.dy.n2 hS.ca.t2 hS.ca.i1 hS.ca.b23 hS.dy.wf hS.c7))
theorem s_closes {l0 : Launch} {g : Gw} {w : Nat} {c : Int} (hc : inR c) : SIM l0 g w mX8_closes mX9_closes [.int (iI c)] := sim_of fun C A V h nx I F ca sa own hS => by
  have w1 := hS.ca.w1
  have n2 := hS.dy.n2
  by_cases b : 0 ≤ c ∧ c < I 2
  · obtain ⟨n, rfl⟩ := Int.eq_ofNat_of_zero_le b.1
    exact sim_sc hS (by decide) (by decide) (k_X8_closes hS.dm b.2 hS.ca.w2) (fun C' A' => mm_n (by rw [if_pos (by omega), w1]) (k_X9_closes hc hS.dy.n2 hS.ca.t2 hS.ca.i1 hS.ca.b23 hS.dy.wf hS.c7))
  · exact sim_sc hS (by decide) (by decide) (mm_md (k_X8_closesN hS.dm hc b)) (fun C' A' => mm_n (if_neg (by omega)) (k_X9_closes hc hS.dy.n2 hS.ca.t2 hS.ca.i1 hS.ca.b23 hS.dy.wf hS.c7))
theorem call_cls {I : Nat → Int} {F : Nat → Int → Int} {w : Int} {c : Int} {t : CS} {f f' : Int → Int} (wf : wfC I F) (hw : I 1 = w) (hc : 0 ≤ c ∧ c < I 2) (h : callR I F f c = some t) : ∃ t', sg I F 12 c w (0, f', 0) = some t' ∧ agr t t' := by
  unfold callR at h
  rw [hw] at h
  have ha : agr ((0, f, 0) : CS) (0, f', 0) := ⟨rfl, rfl, fun j h1 h2 => absurd h2 (by show ¬ j < 0; omega)⟩
  exact sg_agr wf 12 c w (0, f, 0) (0, f', 0) t hc.1 hc.2 (by show (0 : Int) ≤ 0 ∧ (0 : Int) ≤ 1000; omega) ha h
theorem call_none {I : Nat → Int} {F : Nat → Int → Int} {w c : Int} {f : Int → Int} (hw : I 1 = w) (h : callR I F f c = none) : ms (F 3) (F 4) (F 5) 12 c w (0, 0) = none := by
  unfold callR at h
  rw [hw] at h
  have := sg_ms I F 12 c w (0, f, 0)
  rw [h] at this
  exact this.symm
theorem s_colour {l0 : Launch} {g : Gw} {w : Nat} {c i : Int} (hc : inR c) (hi : inR i) : SIM l0 g w mX8_colour mX9_colour [.int (iI c), .int (iI i)] := sim_of fun C A V h nx I F ca sa own hS => by
  have w1 := hS.ca.w1
  have n2 := hS.dy.n2
  by_cases b : 0 ≤ c ∧ c < I 2
  · obtain ⟨n, rfl⟩ := Int.eq_ofNat_of_zero_le b.1
    cases q : callR I F (F 7) (n : Int) with
    | none => exact sim_sc hS (by decide) (by decide) (k_X8_colour0 hS.dm b.2 hS.ca.w2 (call_none w1 q) hi) (fun C' A' => mm_n (by rw [if_pos (by omega), q]) (k_X9_colour hc hi hS.dy.n2 hS.ca.t2 hS.ca.i1 hS.ca.b23 hS.dy.wf hS.c7))
    | some t =>
      obtain ⟨t', t1, t2⟩ := call_cls (f' := A 232) hS.dy.wf w1 b q
      refine sim_sc hS (by decide) (by decide) (k_X8_colour1 hS.dm b.2 hS.ca.w2 hS.ca hS.k7 t1 hi) (fun C' A' => mm_n ?_ (k_X9_colour hc hi hS.dy.n2 hS.ca.t2 hS.ca.i1 hS.ca.b23 hS.dy.wf hS.c7))
      rw [if_pos (by omega), q]
      show (if 0 ≤ i ∧ i ≤ t.1 - 1 then t.2.1 i else -4) = _
      rw [← t2.1]
      by_cases z : 0 ≤ i ∧ i ≤ t.1 - 1
      · rw [if_pos z, if_pos z]; exact t2.2.2 i (by omega) (by omega)
      · rw [if_neg z, if_neg z]
  · exact sim_sc hS (by decide) (by decide) (mm_md (k_X8_colourN hS.dm hc hi b)) (fun C' A' => mm_n (if_neg (by omega)) (k_X9_colour hc hi hS.dy.n2 hS.ca.t2 hS.ca.i1 hS.ca.b23 hS.dy.wf hS.c7))
theorem lenM_ex {S K N : Int → Int} {w c : Int} (h : 0 ≤ lenM S K N w c) : ∃ p, ms S K N 12 c w (0, 0) = some p := by
  unfold lenM at h
  cases q : ms S K N 12 c w (0, 0) with
  | none => rw [q] at h; exact absurd h (by show ¬ (0 : Int) ≤ -6; omega)
  | some p => exact ⟨p, rfl⟩
theorem s_told {l0 : Launch} {g : Gw} {w : Nat} {c s k : Int} (hc : inR c) (hs : inR s) (hk : inR k) : SIM l0 g w mX8_told mX9_told [.int (iI c), .int (iI s), .int (iI k)] := sim_of fun C A V h nx I F ca sa own hS => by
  have w1 := hS.ca.w1
  have n2 := hS.dy.n2
  have h3 : ∀ j, 0 ≤ j → j < I 2 → 0 ≤ F 3 j ∧ F 3 j ≤ 12 := fun j j1 j2 => hS.h3 j j1 (by omega)
  by_cases b : 0 ≤ c ∧ c < I 2
  · obtain ⟨n, rfl⟩ := Int.eq_ofNat_of_zero_le b.1
    have h3n := h3 _ b.1 b.2
    by_cases b2 : 0 ≤ s ∧ s < F 3 (n : Int)
    · obtain ⟨m, rfl⟩ := Int.eq_ofNat_of_zero_le b2.1
      by_cases b3 : 0 ≤ k ∧ k ≤ 3
      · by_cases b4 : k = 3
        · subst b4
          cases q : callR I F (F 7) (n : Int) with
          | none =>
            have hl := callR_none q
            rw [w1] at hl
            refine sim_sc hS (by decide) (by decide) (k_X8_told3 hS.dm b.2 hS.ca.w2 b2.2) (fun C' A' => mm_n ?_ (k_X9_told3 ⟨by omega, by omega⟩ hS.dy.n2 hS.ca.t2 hS.ca.i1 hS.ca.b23 hS.dy.wf hS.c7))
            rw [q, if_pos (by omega)]
          | some t =>
            have hl := callR_some q
            rw [w1] at hl
            have ht := callR_rng hS.dy.wf b q
            refine sim_sc hS (by decide) (by decide) (k_X8_told3 hS.dm b.2 hS.ca.w2 b2.2) (fun C' A' => mm_n ?_ (k_X9_told3 ⟨by omega, by omega⟩ hS.dy.n2 hS.ca.t2 hS.ca.i1 hS.ca.b23 hS.dy.wf hS.c7))
            rw [q, if_neg (by omega)]
            show endsR I F (F 7) (n : Int) (F 8) (m : Int) = _
            obtain ⟨p, hp⟩ := lenM_ex (S := F 3) (K := F 4) (N := F 5) (w := (w : Int)) (c := (n : Int)) (by omega)
            rw [endsR_edM, w1]
            exact edM_dep12 h3n.1 hp (m : Int) (by omega) b2.2
        · have h4 := (hS.dy.wf (n : Int) b.1 b.2).2 (m : Int) b2.1 b2.2
          exact sim_sc hS (by decide) (by decide) (mm_md (k_X8_toldC hS.dm b.2 b2.2 (by omega))) (fun C' A' => mm_d rfl (k_X9_told1 ⟨by omega, by omega⟩ (by omega) hS.dy.n2 h3 h4.1))
      · exact sim_sc hS (by decide) (by decide) (mm_md (k_X8_toldD hS.dm b.2 b2.2 hk b3)) (fun C' A' => mm_d rfl (k_X9_told0 hc hs hk hS.dy.n2 h3 (by omega)))
    · exact sim_sc hS (by decide) (by decide) (mm_md (k_X8_toldB hS.dm b.2 hs hk b2)) (fun C' A' => mm_d rfl (k_X9_told0 hc hs hk hS.dy.n2 h3 (by omega)))
  · exact sim_sc hS (by decide) (by decide) (mm_md (k_X8_toldA hS.dm hc hs hk b)) (fun C' A' => mm_d rfl (k_X9_told0 hc hs hk hS.dy.n2 h3 (by omega)))
theorem mm_m {l0 : Launch} {g : Gw} {w e nx n : Nat} {m9 : Md} {vs : List Value} {z y : Int} {fm : Int × Int × Int} {h0 h : Nat → va_E} {C : Nat → Nat → Int} {A : Nat → Int → Int} {V : Nat → Value} {I : Nat → Int} {F : Nat → Int → Int} {ca : Nat → Nat} {sa : Nat → Nat → Nat} {own : Nat → Nat} (hy : y = z) (hN : MM l0 g e m9 (mp 257 h0 I F, n) vs 0 0 (fun r σ' => r = some (.int (iI y)) ∧ ∃ (a' : Int) (f' e' S' T' U' V' : Int → Int), col7 f' ∧ σ' = (mp 257 h0 (mI I a' fm) (cS F f' e' S' T' U' V'), n))) : MM l0 g e m9 (mp 257 h0 I F, n) vs 0 0 (fun r σ' => r = some (.int (iI z)) ∧ ∃ (I' : Nat → Int) (F' : Nat → Int → Int), (RSx w C A V h nx I F ca sa own → RSx w C A V h nx I' F' ca sa own) ∧ σ' = (mp 257 h0 I' F', n)) := by
  subst hy
  refine MM.mono hN (fun r σ q => ⟨q.1, ?_⟩)
  obtain ⟨a', f', e', S', T', U', V', h1, h2⟩ := q.2
  exact ⟨mI I a' fm, cS F f' e' S' T' U' V', fun hS => hS.cs (I' := mI I a' fm) rfl rfl rfl rfl h1, h2⟩
theorem mp_uph {h : Nat → va_E} {I : Nat → Int} {F : Nat → Int → Int} {q : Nat} (hq : 290 ≤ q) (e : va_E) : va_up (mp 257 h I F) q e = mp 257 (va_up h q e) I F := by
  funext j
  by_cases c : j = q
  · rw [c, va_up_self, mp_out (.inr (by omega)), va_up_self]
  · rw [va_up_ne _ _ c]
    by_cases d : j < 257 ∨ 257 + 32 < j
    · rw [mp_out d, mp_out d, va_up_ne _ _ c]
    · by_cases f : j = 257
      · rw [f, mp_obj, mp_obj]
      · unfold mp
        rw [if_neg f, if_neg f, va_up_ne _ _ c]
theorem RSx.md {w : Nat} {C : Nat → Nat → Int} {A : Nat → Int → Int} {V : Nat → Value} {h : Nat → va_E} {nx : Nat} {I : Nat → Int} {F : Nat → Int → Int} {ca : Nat → Nat} {sa : Nat → Nat → Nat} {own : Nat → Nat} {c s : Nat} {v : Int} (hS : RSx w C A V h nx I F ca sa own) (hc : (c : Int) < I 2) (hs : (s : Int) < F 3 (c : Int)) (hk : F 4 (12 * (c : Int) + (s : Int)) = 0) (hv : 1 ≤ v ∧ v ≤ 40) : RSx w C A V (va_up h (sa c s) (stE (fN F (12 * (c : Int) + (s : Int)) v) (12 * (c : Int) + (s : Int)))) nx I (fN F (12 * (c : Int) + (s : Int)) v) ca sa own := by
  have o1 := hS.dy.os c s hc hs
  have n2 := hS.dy.n2
  have h3 := hS.h3 (c : Int) (by omega) (by omega)
  refine ⟨hS.dy.upN hc hs hk hv, hS.ca.cong (fun _ _ => rfl) (fun _ _ => rfl) rfl rfl rfl rfl rfl rfl rfl rfl rfl rfl rfl rfl, hS.sh.cong (fun _ _ _ => rfl) (fun _ _ _ => rfl) (fun _ _ _ => rfl) (Nat.le_refl _) (fun q _ _ q3 => ⟨q3, ?_⟩) rfl rfl rfl rfl rfl rfl, hS.vi.cong rfl rfl rfl rfl rfl rfl rfl, hS.c7, hS.k7, hS.h3, hS.nx, ?_⟩
  · rw [va_up_ne]
    intro z
    rw [z] at q3
    omega
  · rw [va_up_ne _ _ (by omega)]
    exact hS.out
theorem s_mend {l0 : Launch} {g : Gw} {w : Nat} {c k : Int} (hc : inR c) (hk : inR k) : SIM l0 g w mX8_mend mX9_mend [.int (iI c), .int (iI k)] := sim_of fun C A V h nx I F ca sa own hS => by
  have w1 := hS.ca.w1
  have n2 := hS.dy.n2
  by_cases bk : 0 ≤ k ∧ k ≤ 1
  · by_cases b : 0 ≤ c ∧ c < I 2
    · obtain ⟨n, rfl⟩ := Int.eq_ofNat_of_zero_le b.1
      by_cases hl : lenM (F 3) (F 4) (F 5) (w : Int) (n : Int) < 0 ∨ lenM (F 3) (F 4) (F 5) (w : Int) (n : Int) = (w : Int)
      · exact sim_sc hS (by decide) (by decide) (k_X8_mend0 hS.dm b.2 hS.ca.w2 hl bk) (fun C' A' => mm_n (by rw [if_neg (fun z => z (by omega)), w1]) (k_X9_mend0 hc bk hS.dy.n2 hS.ca.t2 hS.ca.i1 hS.ca.b23 hS.dy.wf hS.c7 (.inr (by rw [w1]; exact hl))))
      · refine sim_sc hS (by decide) (by decide) (k_X8_mend1 (i9 := I 14) (j9 := I 15) hS.dm b.2 hS.ca.w2 (by omega) (by omega) bk) (fun C' A' => mm_m ?_ (k_X9_mend1 bk b hS.dy.n2 hS.ca.t2 hS.ca.i1 hS.ca.b23 hS.dy.wf hS.c7 (by rw [w1]; omega) (by rw [w1]; omega)))
        rw [w1]
    · exact sim_sc hS (by decide) (by decide) (mm_md (k_X8_mendN hS.dm hc hk b)) (fun C' A' => mm_n (if_pos (by omega)) (k_X9_mend0 hc bk hS.dy.n2 hS.ca.t2 hS.ca.i1 hS.ca.b23 hS.dy.wf hS.c7 (.inl (by omega))))
  · exact sim_sc hS (by decide) (by decide) (mm_md (k_X8_mendB hS.dm hc hk bk)) (fun C' A' => mm_d rfl (k_X9_mendB hk bk))
theorem s_mended {l0 : Launch} {g : Gw} {w : Nat} {c : Int} (hc : inR c) : SIM l0 g w mX8_mended mX9_mended [.int (iI c)] := sim_of fun C A V h nx I F ca sa own hS => by
  have w1 := hS.ca.w1
  have n2 := hS.dy.n2
  by_cases b : 0 ≤ c ∧ c < I 2
  · obtain ⟨n, rfl⟩ := Int.eq_ofNat_of_zero_le b.1
    by_cases hl : lenM (F 3) (F 4) (F 5) (w : Int) (n : Int) < 0 ∨ lenM (F 3) (F 4) (F 5) (w : Int) (n : Int) = (w : Int)
    · exact sim_sc hS (by decide) (by decide) (k_X8_mended0 hS.dm b.2 hS.ca.w2 hl) (fun C' A' => mm_n (by rw [if_neg (fun z => z (by omega)), w1]) (k_X9_mended0 hc hS.dy.n2 hS.ca.t2 hS.ca.i1 hS.ca.b23 hS.dy.wf hS.c7 (.inr (by rw [w1]; exact hl))))
    · by_cases hy : (fmS (F 3) (F 4) (F 5) (w : Int) (n : Int) (F 3 (n : Int)).toNat 0 (41, I 14, I 15)).1 < 41
      · obtain ⟨fm, hfm⟩ : ∃ fm, fm = (fmS (F 3) (F 4) (F 5) (w : Int) (n : Int) (F 3 (n : Int)).toNat 0 (41, I 14, I 15)) := ⟨_, rfl⟩
        have h8 := k_X8_mended2 (l0 := l0) (g := g) (w := w) (A := A) (i9 := I 14) (j9 := I 15) hS.dm b.2 hS.ca.w2 (by omega) (by omega) hy
        have h9 := fun (h0 : Nat → va_E) => k_X9_mended2 (l0 := l0) (g := g) (mo := 257) (h0 := h0) (nx := nx) b hS.dy.n2 hS.ca.t2 hS.ca.i1 hS.ca.b23 hS.dy.wf hS.c7 (by rw [w1]; omega) (by rw [w1]; omega) (by rw [w1]; exact hy)
        simp only [w1] at h9
        rw [← hfm] at h8 h9
        refine ⟨33, 0, 0, (w : Int), fun σ1 => mnd (F 3) (F 4) (F 5) (w : Int) (n : Int) fm.2.1 fm.2.2 ∧ ∃ (C' : Nat → Nat → Int) (A' : Nat → Int → Int), scC C A C' A' ∧ σ1 = (cp w C' A' V (va_up (mp 257 h I F) (sa n fm.2.1.toNat) (stE (fN F (12 * (n : Int) + fm.2.1) fm.2.2) (12 * (n : Int) + fm.2.1))), nx), by decide, by decide, by decide, h8, fun σ1 hq => ⟨5, by decide, ?_, ?_⟩⟩
        · obtain ⟨hm, C', A', hs, rfl⟩ := hq
          obtain ⟨⟨x1, x2⟩, x3, x4, _⟩ := hm.1
          have o1 := hS.dy.os n fm.2.1.toNat b.2 (by omega)
          rw [mp_uph (by omega)]; exact m9_cp
        obtain ⟨hm, C', A', hs, rfl⟩ := hq
        obtain ⟨⟨x1, x2⟩, x3, x4, _⟩ := hm.1
        clear hfm
        obtain ⟨fa, fs, fv⟩ := fm
        obtain ⟨s, hs0⟩ := Int.eq_ofNat_of_zero_le x1
        have hs0 : fs = (s : Int) := hs0
        subst hs0
        have o1 := hS.dy.os n s b.2 x2
        show MM l0 g 5 mX9_mended (cp w C' A' V (va_up (mp 257 h I F) (sa n s) (stE (fN F (12 * (n : Int) + (s : Int)) fv) (12 * (n : Int) + (s : Int)))), nx) _ 0 0 _
        rw [mp_uph (by omega), cp_mp]
        refine MM.mono (h9 _) (fun r σ2 q => ⟨q.1, ?_⟩)
        obtain ⟨a', f', e', S', T', U', V', q1, q2⟩ := q.2
        exact ⟨C', A', V, va_up h (sa n s) (stE (fN F (12 * (n : Int) + (s : Int)) fv) (12 * (n : Int) + (s : Int))), nx, mI I a' (fa, (s : Int), fv), cS (fN F (12 * (n : Int) + (s : Int)) fv) f' e' S' T' U' V', ca, sa, own, by rw [q2, cp_mp]; rfl, ((hS.md b.2 x2 x3 x4).cs (I' := mI I a' (fa, (s : Int), fv)) rfl rfl rfl rfl q1).sc hs⟩
      · exact sim_sc hS (by decide) (by decide) (k_X8_mended1 (i9 := I 14) (j9 := I 15) hS.dm b.2 hS.ca.w2 (by omega) (by omega) hy) (fun C' A' => mm_m rfl (k_X9_mended1 b hS.dy.n2 hS.ca.t2 hS.ca.i1 hS.ca.b23 hS.dy.wf hS.c7 (by rw [w1]; omega) (by rw [w1]; omega) (by rw [w1]; exact hy)))
  · exact sim_sc hS (by decide) (by decide) (mm_md (k_X8_mendedN hS.dm hc b)) (fun C' A' => mm_n (if_pos (by omega)) (k_X9_mended0 hc hS.dy.n2 hS.ca.t2 hS.ca.i1 hS.ca.b23 hS.dy.wf hS.c7 (.inl (by omega))))
