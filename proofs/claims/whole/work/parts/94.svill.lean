/-! CLASS AND REFERENCE: villages, chant, step (by p94.py) -/
theorem md_ans {l0 : Launch} {g : Gw} {d mc ms : Nat} {m : Md} {σ σ1 : Sg} {vs : List Value} {y z : Int} (hy : y = z) (hM : MD l0 g d m σ vs mc ms (some (.int (iI y))) σ1) : MD l0 g d m σ vs mc ms (some (.int (iI z))) σ1 := by subst hy; exact hM
theorem RSx.fr {w : Nat} {C : Nat → Nat → Int} {A : Nat → Int → Int} {V : Nat → Value} {h : Nat → va_E} {nx : Nat} {I : Nat → Int} {F : Nat → Int → Int} {ca : Nat → Nat} {sa : Nat → Nat → Nat} {own : Nat → Nat} {I' : Nat → Int} {F' : Nat → Int → Int} (hS : RSx w C A V h nx I F ca sa own) (h1 : I' 1 = I 1) (h2 : I' 2 = I 2) (h21 : I' 21 = I 21) (h27 : I' 27 = I 27) (hF : ∀ k, k < 31 ∨ 34 < k → F' k = F k) : RSx w C A V h nx I' F' ca sa own :=
  ⟨hS.dy.cong (fun _ _ => rfl) rfl rfl h2 (hF _ (.inl (by decide))) (hF _ (.inl (by decide))) (hF _ (.inl (by decide))) (hF _ (.inl (by decide))), hS.ca.cong (fun _ _ => rfl) (fun _ _ => rfl) h1 h21 (hF _ (.inl (by decide))) (hF _ (.inl (by decide))) (hF _ (.inl (by decide))) (hF _ (.inl (by decide))) (hF _ (.inl (by decide))) (hF _ (.inl (by decide))) (hF _ (.inl (by decide))) (hF _ (.inl (by decide))) (hF _ (.inl (by decide))) (hF _ (.inl (by decide))), hS.sh.cong (fun _ _ _ => rfl) (fun _ _ _ => rfl) (fun _ _ _ => rfl) (Nat.le_refl _) (fun _ _ _ q => ⟨q, rfl⟩) (hF _ (.inr (by decide))) (hF _ (.inr (by decide))) (hF _ (.inr (by decide))) (hF _ (.inr (by decide))) (hF _ (.inr (by decide))) (hF _ (.inr (by decide))), hS.vi.cong rfl rfl rfl rfl rfl h27 (hF _ (.inl (by decide))), by rw [hF _ (.inl (by decide))]; exact hS.c7, hS.k7, by rw [hF _ (.inl (by decide))]; exact hS.h3, hS.nx, hS.out⟩
theorem RSx.tr {w : Nat} {C : Nat → Nat → Int} {A : Nat → Int → Int} {V : Nat → Value} {h : Nat → va_E} {nx : Nat} {I : Nat → Int} {F : Nat → Int → Int} {ca : Nat → Nat} {sa : Nat → Nat → Nat} {own : Nat → Nat} (hS : RSx w C A V h nx I F ca sa own) (t : TrS) : RSx w C A V h nx (tI I t) (tF F t) ca sa own := hS.fr rfl rfl rfl rfl (fun k hk => by unfold tF; rw [va_up_ne _ _ (by omega), va_up_ne _ _ (by omega)])
theorem SB_rtA {W : Int → Int} : ∀ (n : Nat) (s : Int) (p : SP), 0 < s → s + n ≤ 64 → SB p → SB (rtA W n s p) := by
  intro n
  induction n with
  | zero => intro s p _ _ h; exact h
  | succ n ih => intro s p h1 h2 h; exact ih (s + 1) _ (by omega) (by omega) (SB_rt (by omega) h)
theorem RSx.rv {w : Nat} {C : Nat → Nat → Int} {A : Nat → Int → Int} {V : Nat → Value} {h : Nat → va_E} {nx : Nat} {I : Nat → Int} {F : Nat → Int → Int} {ca : Nat → Nat} {sa : Nat → Nat → Nat} {own : Nat → Nat} {p : SP} (hS : RSx w C A V h nx I F ca sa own) (hp : SB p) : RSx w C (rvS A p) V h nx I F ca sa own := by
  have hA : ∀ q, q ≠ 237 → q ≠ 238 → rvS A p q = A q := fun q q1 q2 => by unfold rvS; rw [va_up_ne _ _ q2, va_up_ne _ _ q1]
  refine ⟨hS.dy, hS.ca.cong (fun _ _ => rfl) (fun q hq => hA q (by omega) (by omega)) rfl rfl rfl rfl rfl rfl rfl rfl rfl rfl rfl rfl, hS.sh.cong (fun _ _ _ => rfl) (fun q q1 _ => hA q (by omega) (by omega)) (fun _ _ _ => rfl) (Nat.le_refl _) (fun _ _ _ q => ⟨q, rfl⟩) rfl rfl rfl rfl rfl rfl, ⟨hS.vi.n, hS.vi.r, hS.vi.w, hS.vi.b, hS.vi.l, hS.vi.s, hS.vi.k, hp⟩, hS.c7, hS.k7, hS.h3, hS.nx, hS.out⟩
theorem RSx.vl {w : Nat} {C : Nat → Nat → Int} {A : Nat → Int → Int} {V : Nat → Value} {h : Nat → va_E} {nx : Nat} {I : Nat → Int} {F : Nat → Int → Int} {ca : Nat → Nat} {sa : Nat → Nat → Nat} {own : Nat → Nat} {x : Int} {v : Nat} (hS : RSx w C A V h nx I F ca sa own) (hv : I 27 = (v : Int)) (hv8 : v < 8) (hx : 0 ≤ x ∧ x ≤ 255) : RSx w (cT (va_up C 234 (va_up (C 234) 5 ((v : Int) + 1))) (trF (fu (A 235) (v : Int) x) (v + 1) 9 0 (idA (v + 1) 0 (A 236), A 239, 0, 0))) (aT (va_up A 235 (fu (A 235) (v : Int) x)) (trF (fu (A 235) (v : Int) x) (v + 1) 9 0 (idA (v + 1) 0 (A 236), A 239, 0, 0))) V h nx (va_up I 27 (I 27 + 1)) (va_up F 30 (fu (F 30) (I 27) x)) ca sa own := by
  have ht : trE (v + 1) (trF (fu (A 235) (v : Int) x) (v + 1) 9 0 (idA (v + 1) 0 (A 236), A 239, 0, 0)) (treeW (fu (F 30) (I 27) x) (I 27 + 1)) := by
    unfold treeW
    rw [hS.vi.w, hv, show ((v : Int) + 1).toNat = v + 1 by omega]
    exact trE_F 9 0 _ _ (trE_id _ _ _ _ _)
  generalize trF (fu (A 235) (v : Int) x) (v + 1) 9 0 (idA (v + 1) 0 (A 236), A 239, 0, 0) = t at *
  have hC : ∀ q, q ≠ 234 → cT (va_up C 234 (va_up (C 234) 5 ((v : Int) + 1))) t q = C q := fun q hq => by unfold cT; rw [va_up_ne _ _ hq, va_up_ne _ _ hq]
  have hA : ∀ q, q ≠ 235 → q ≠ 236 → q ≠ 239 → aT (va_up A 235 (fu (A 235) (v : Int) x)) t q = A q := fun q q1 q2 q3 => by unfold aT; rw [va_up_ne _ _ q3, va_up_ne _ _ q2, va_up_ne _ _ q1]
  have vr := hS.vi.r
  refine ⟨hS.dy.cong (fun _ _ => rfl) (by rw [hC _ (by decide)]) rfl rfl rfl rfl rfl rfl, hS.ca.cong (fun q hq => hC q (by omega)) (fun q hq => hA q (by omega) (by omega) (by omega)) rfl rfl rfl rfl rfl rfl rfl rfl rfl rfl rfl rfl, hS.sh.cong (fun q q1 _ => hC q (by omega)) (fun q q1 _ => hA q (by omega) (by omega) (by omega)) (fun _ _ _ => rfl) (Nat.le_refl _) (fun _ _ _ q => ⟨q, rfl⟩) rfl rfl rfl rfl rfl rfl, ⟨?_, ?_, ?_, ?_, ?_, ?_, ?_, ?_⟩, hS.c7, by rw [hA _ (by decide) (by decide) (by decide)]; exact hS.k7, hS.h3, hS.nx, hS.out⟩
  · show (v : Int) + 1 = I 27 + 1
    omega
  · show 0 ≤ I 27 + 1 ∧ I 27 + 1 ≤ 8
    omega
  · show fu (A 235) (v : Int) x = fu (F 30) (I 27) x
    rw [hS.vi.w, hv]
  · intro j j1 j2
    show 0 ≤ fu (F 30) (I 27) x j ∧ fu (F 30) (I 27) x j < 2 ^ 8
    by_cases q : j = I 27
    · rw [q, fu_s]; omega
    · rw [fu_n q]; exact hS.vi.b j j1 j2
  · exact ht.2.2.1
  · exact ht.2.2.2
  · intro i i1 i2
    exact ht.2.1 i (by rw [ht.2.2.1]; exact i2) i1
  · exact hS.vi.sb
theorem RVi.t {C : Nat → Nat → Int} {A : Nat → Int → Int} {I : Nat → Int} {F : Nat → Int → Int} (hV : RVi C A I F) : trE (I 27).toNat (treeT I F) (treeW (F 30) (I 27)) := treeT_W I F
theorem s_village {l0 : Launch} {g : Gw} {w : Nat} {x : Int} (hx : inR x) : SIM l0 g w mX8_village mX9_village [.int (iI x)] := sim_of fun C A V h nx I F ca sa own hS => by
  have vr := hS.vi.r
  have vn := hS.vi.n
  by_cases b : (0 ≤ x ∧ x ≤ 255) ∧ I 27 < 8
  · obtain ⟨v, hv⟩ := Int.eq_ofNat_of_zero_le vr.1
    have h9 := k_X9_village1 (l0 := l0) (g := g) (mo := 257) (h0 := cp w (cT (va_up C 234 (va_up (C 234) 5 ((v : Int) + 1))) (trF (fu (A 235) (v : Int) x) (v + 1) 9 0 (idA (v + 1) 0 (A 236), A 239, 0, 0))) (aT (va_up A 235 (fu (A 235) (v : Int) x)) (trF (fu (A 235) (v : Int) x) (v + 1) 9 0 (idA (v + 1) 0 (A 236), A 239, 0, 0))) V h) (nx := nx) (I := I) (F := F) b.1 (by omega)
    exact sim_md (by decide) (by decide) (by decide) (by decide) (k_X8_village1 (by omega) (by omega) (by rw [hS.vi.w]; exact hS.vi.b) b.1) (md_ans hv h9) (hS.vl hv (by omega) b.1)
  · exact sim_md (by decide) (by decide) (by decide) (by decide) (k_X8_village0 hx (by omega)) (k_X9_village0 hx vr (by omega)) hS
theorem s_tree {l0 : Launch} {g : Gw} {w : Nat} : SIM l0 g w mX8_tree mX9_tree [] := sim_of fun C A V h nx I F ca sa own hS => by
  have vr := hS.vi.r
  have vn := hS.vi.n
  have ht := hS.vi.t
  have h8 := k_X8_tree (l0 := l0) (g := g) (w := w) (C := C) (A := A) (V := V) (h := mp 257 h I F) (nx := nx) (by omega)
  rw [vn, hS.vi.s] at h8
  by_cases b : I 27 = 0
  · rw [if_pos b] at h8
    exact sim_md (by decide) (by decide) (by decide) (by decide) h8 (k_X9_tree0 b) hS
  · rw [if_neg b, ← ht.2.2.2] at h8
    exact sim_md (by decide) (by decide) (by decide) (by decide) h8 (k_X9_tree1 (by omega) vr hS.vi.b) (hS.tr _)
theorem s_link {l0 : Launch} {g : Gw} {w : Nat} {i : Int} (hi : inR i) : SIM l0 g w mX8_link mX9_link [.int (iI i)] := sim_of fun C A V h nx I F ca sa own hS => by
  have vr := hS.vi.r
  have ht := hS.vi.t
  have hl := treeT_links I F vr
  have h8 := k_X8_link (l0 := l0) (g := g) (w := w) (C := C) (A := A) (V := V) (h := mp 257 h I F) (nx := nx) hi (by rw [hS.vi.l, ← ht.2.2.1]; exact hl)
  rw [hS.vi.l] at h8
  by_cases b : i < 0
  · rw [if_pos b] at h8
    exact sim_md (by decide) (by decide) (by decide) (by decide) h8 (k_X9_link0 hi b) hS
  · rw [if_neg b] at h8
    have h9 := k_X9_link1 (l0 := l0) (g := g) (mo := 257) (h0 := cp w C A V h) (nx := nx) hi (by omega) vr hS.vi.b
    rw [ht.2.2.1] at h9
    by_cases b2 : i < (treeW (F 30) (I 27)).2.2.1
    · rw [if_pos b2] at h8 h9
      rw [hS.vi.k i (by omega) b2, ← ht.2.1 i (by rw [ht.2.2.1]; exact b2) (by omega)] at h8
      exact sim_md (by decide) (by decide) (by decide) (by decide) h8 h9 (hS.tr _)
    · rw [if_neg b2] at h8 h9
      exact sim_md (by decide) (by decide) (by decide) (by decide) h8 h9 (hS.tr _)
theorem s_rivals {l0 : Launch} {g : Gw} {w : Nat} : SIM l0 g w mX8_rivals mX9_rivals [] := sim_of fun C A V h nx I F ca sa own hS => by
  have vr := hS.vi.r
  have vn := hS.vi.n
  by_cases b : I 27 = 0 ∨ 6 < I 27
  · have h8 := k_X8_rivals0 (l0 := l0) (g := g) (w := w) (C := C) (A := A) (V := V) (h := mp 257 h I F) (nx := nx) (by omega) (by omega)
    rw [vn] at h8
    exact sim_md (by decide) (by decide) (by decide) (by decide) h8 (k_X9_rivals0 vr b) hS
  · obtain ⟨v, hv⟩ := Int.eq_ofNat_of_zero_le vr.1
    have hv6 : 1 ≤ v ∧ v ≤ 6 := by omega
    have hB : SB (rtA (A 235) (2 ^ v - 1) 1 (A 237, A 238)) := by
      have hp : 2 ^ v ≤ 64 := by
        rcases (show v = 1 ∨ v = 2 ∨ v = 3 ∨ v = 4 ∨ v = 5 ∨ v = 6 by omega) with z | z | z | z | z | z <;> (rw [z]; decide)
      have hp2 : 1 ≤ 2 ^ v := Nat.one_le_two_pow
      exact SB_rtA _ _ _ (by decide) (by omega) hS.vi.sb
    have h8 := k_X8_rivals1 (l0 := l0) (g := g) (w := w) (C := C) (A := A) (V := V) (h := mp 257 h I F) (nx := nx) (v := v) (by omega) hv6 hS.vi.sb (by rw [hS.vi.w]; exact hS.vi.b)
    have h9 := fun h0 => k_X9_rivals1 (l0 := l0) (g := g) (mo := 257) (h0 := h0) (nx := nx) (I := I) (F := F) (by omega) hS.vi.b
    have hp := pp_tab (f := F 33) (k := F 34) hv6
    have he : (rvA (F 30) (ppA (I 27) (I 27).toNat 0 (F 33, F 34, 0)).1 (ppA (I 27) (I 27).toNat 0 (F 33, F 34, 0)).2.1 (I 27).toNat (ppA (I 27) (I 27).toNat 0 (F 33, F 34, 0)).2.2 (treeT I F).2.2.2 ((2 : Int) ^ (ppA (I 27) (I 27).toNat 0 (F 33, F 34, 0)).2.2.toNat).toNat 0 0 (treeT I F).1).1 = (rtA (A 235) (2 ^ v - 1) 1 (A 237, A 238)).2 (2 ^ v - 1) := by
      have e1 := riv_eq (W := F 30) (A := (ppA (v : Int) v 0 (F 33, F 34, 0)).1) (B := (ppA (v : Int) v 0 (F 33, F 34, 0)).2.1) (f := F 31) (l0 := F 32) (g := (treeT I F).1) (p := (A 237, A 238)) hv6 hp.2
      rw [hS.vi.w, ← e1]
      unfold treeT
      rw [hv, Int.toNat_natCast, hp.1, Int.toNat_natCast, show ((2 : Int) ^ psN v) = ((2 ^ psN v : Nat) : Int) by simp, Int.toNat_natCast]
    rw [he] at h9
    refine sim_md (by decide) (by decide) (by decide) (by decide) h8 (h9 _) ((hS.rv hB).fr rfl rfl rfl rfl (fun k hk => ?_))
    rw [va_up_ne _ _ (by omega)]
    unfold pF tF
    rw [va_up_ne _ _ (by omega), va_up_ne _ _ (by omega), va_up_ne _ _ (by omega), va_up_ne _ _ (by omega)]
theorem RSx.gr {w : Nat} {C : Nat → Nat → Int} {A : Nat → Int → Int} {V : Nat → Value} {h : Nat → va_E} {nx : Nat} {I : Nat → Int} {F : Nat → Int → Int} {ca : Nat → Nat} {sa : Nat → Nat → Nat} {own : Nat → Nat} {C1 : Nat → Nat → Int} {V1 : Nat → Value} {h1 : Nat → va_E} {nx1 : Nat} {I' : Nat → Int} {F' : Nat → Int → Int} {ca1 : Nat → Nat} {sa1 : Nat → Nat → Nat} {own1 : Nat → Nat} (hS : RSx w C A V h nx I F ca sa own) (hD : RDy h1 nx1 C1 V1 I' F' ca1 sa1 own1) (hf : frD (mp 257 h I F) own nx h1 own1 nx1) (hq : ∀ q, q ≠ 231 → C1 q = C q ∧ V1 q = V q) (i1 : I' 1 = I 1) (i21 : I' 21 = I 21) (i27 : I' 27 = I 27) (hF : ∀ k, 7 ≤ k → F' k = F k) (h3 : ∀ j, 0 ≤ j → j < 12 → 0 ≤ F' 3 j ∧ F' 3 j ≤ 12) : RSx w C1 A V1 h1 nx1 I' F' ca1 sa1 own1 := by
  have nx0 := hS.nx
  refine ⟨hD, hS.ca.cong (fun q hq' => (hq q (by omega)).1) (fun _ _ => rfl) i1 i21 (hF _ (by decide)) (hF _ (by decide)) (hF _ (by decide)) (hF _ (by decide)) (hF _ (by decide)) (hF _ (by decide)) (hF _ (by decide)) (hF _ (by decide)) (hF _ (by decide)) (hF _ (by decide)), hS.sh.cong (fun q q1 _ => (hq q (by omega)).1) (fun _ _ _ => rfl) (fun q q1 _ => (hq q (by omega)).2) hf.1 (fun q q1 q2 q3 => ?_) (hF _ (by decide)) (hF _ (by decide)) (hF _ (by decide)) (hF _ (by decide)) (hF _ (by decide)) (hF _ (by decide)), hS.vi.cong (hq _ (by decide)).1 rfl rfl rfl rfl i27 (hF _ (by decide)), by rw [hF _ (by decide)]; exact hS.c7, hS.k7, h3, Nat.le_trans nx0 hf.1, ?_⟩
  · have := hf.2.2 q q2 q3
    rw [mp_out (.inr (by omega))] at this
    exact this
  · have := hf.2.1 290 (by decide)
    rw [mp_out (.inr (by decide))] at this
    rw [this]
    exact hS.out
theorem s_chant {l0 : Launch} {g : Gw} {w : Nat} : SIM l0 g w mX8_chant mX9_chant [] := sim_of fun C A V h nx I F ca sa own hS => by
  have n2 := hS.dy.n2
  have h9 := fun h0 n => k_X9_chant (l0 := l0) (g := g) (mo := 257) (h0 := h0) (nx := n) (I := I) (F := F) n2
  by_cases b : I 2 = 12
  · simp only [if_pos b] at h9
    exact sim_md (by decide) (by decide) (by decide) (by decide) (k_X8_chant0 hS.dm b) (h9 _ _) hS
  · simp only [if_neg b] at h9
    refine ⟨9, 3, 19, I 2, _, by decide, by decide, by decide, k_X8_chant1 hS.dm hS.nx (by omega), fun σ1 hq => ⟨0, by decide, ?_, ?_⟩⟩
    · obtain ⟨C1, V1, h1, nx1, ca1, sa1, own1, e, hD, hf, hq⟩ := hq
      rw [e, mp_idem hf.2.1]; exact m9_cp
    obtain ⟨C1, V1, h1, nx1, ca1, sa1, own1, e, hD, hf, hq⟩ := hq
    have hm := mp_idem hf.2.1
    rw [e, hm, cp_mp]
    refine MM.mono (h9 _ _) (fun r σ2 q => ⟨q.1, C1, A, V1, h1, nx1, _, _, ca1, sa1, own1, by rw [q.2, cp_mp], hS.gr hD hf hq rfl rfl rfl (fun k hk => va_up_ne _ _ (by omega)) (fun j j1 j2 => ?_)⟩)
    show 0 ≤ fu (F 3) (I 2) 0 j ∧ fu (F 3) (I 2) 0 j ≤ 12
    by_cases q : j = I 2
    · rw [q, fu_s]; decide
    · rw [fu_n q]; exact hS.h3 j j1 j2
theorem s_step {l0 : Launch} {g : Gw} {w : Nat} {k n c : Int} (hk : inR k) (hn : inR n) (hc : inR c) : SIM l0 g w mX8_step mX9_step [.int (iI k), .int (iI n), .int (iI c)] := sim_of fun C A V h nx I F ca sa own hS => by
  have n2 := hS.dy.n2
  by_cases b : okStep I k n c
  · by_cases b0 : I 2 = 0
    · have h9 := fun h0 => k_X9_step1 (l0 := l0) (g := g) (mo := 257) (h0 := h0) (nx := nx) (F := F) hk hn hc n2 hS.h3 b (.inl b0)
      simp only [if_pos b0] at h9
      exact sim_md (by decide) (by decide) (by decide) (by decide) (k_X8_step1 hS.dm hk hn hc b b0) (h9 _) hS
    · obtain ⟨c0, hc0⟩ : ∃ c0 : Nat, I 2 = (c0 : Int) + 1 := ⟨(I 2 - 1).toNat, by omega⟩
      have h3c := hS.h3 (c0 : Int) (by omega) (by omega)
      have e0 : I 2 - 1 = (c0 : Int) := by omega
      by_cases b1 : F 3 (c0 : Int) = 12
      · have h9 := fun h0 => k_X9_step1 (l0 := l0) (g := g) (mo := 257) (h0 := h0) (nx := nx) (F := F) hk hn hc n2 hS.h3 b (.inr (by rw [e0]; exact b1))
        simp only [if_neg b0] at h9
        exact sim_md (by decide) (by decide) (by decide) (by decide) (k_X8_step2 hS.dm hk hn hc b hc0 b1) (h9 _) hS
      · have h9 := fun h0 n1 => k_X9_step2 (l0 := l0) (g := g) (mo := 257) (h0 := h0) (nx := n1) (F := F) hk hn hc n2 hS.h3 b (by omega) (by rw [e0]; omega)
        simp only [e0] at h9
        refine ⟨9, 2, 18, F 3 (c0 : Int), _, by decide, by decide, by decide, k_X8_step3 hS.dm hS.nx hk hn hc b hc0 (by omega), fun σ1 hq => ⟨2, by decide, ?_, ?_⟩⟩
        · obtain ⟨h1, nx1, ca1, sa1, own1, e, hD, hf⟩ := hq
          rw [e, mp_idem hf.2.1]; exact m9_cp
        obtain ⟨h1, nx1, ca1, sa1, own1, e, hD, hf⟩ := hq
        have hm := mp_idem hf.2.1
        rw [e, hm, cp_mp]
        refine MM.mono (h9 _ _) (fun r σ2 q => ⟨q.1, C, A, V, h1, nx1, _, _, ca1, sa1, own1, by rw [q.2, cp_mp], hS.gr hD hf (fun _ _ => ⟨rfl, rfl⟩) rfl rfl rfl (fun k hk => ?_) (fun j j1 j2 => ?_)⟩)
        · rw [va_up_ne _ _ (by omega), va_up_ne _ _ (by omega), va_up_ne _ _ (by omega), va_up_ne _ _ (by omega)]
        · show 0 ≤ fu (F 3) (c0 : Int) (F 3 (c0 : Int) + 1) j ∧ fu (F 3) (c0 : Int) (F 3 (c0 : Int) + 1) j ≤ 12
          by_cases q : j = (c0 : Int)
          · rw [q, fu_s]; omega
          · rw [fu_n q]; exact hS.h3 j j1 j2
  · exact sim_md (by decide) (by decide) (by decide) (by decide) (k_X8_step0 hS.dm hk hn hc b) (k_X9_step0 hk hn hc n2 b) hS
