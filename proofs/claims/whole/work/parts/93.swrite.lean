/-! CLASS AND REFERENCE: hand, dye, found, cut (by p93.py) -/
theorem RCa.hd {w : Nat} {C : Nat → Nat → Int} {A : Nat → Int → Int} {I : Nat → Int} {F : Nat → Int → Int} {x n p : Int} (hR : RCa w C A I F) (hok : (0 ≤ x ∧ x ≤ 5) ∧ (1 ≤ n ∧ n ≤ 40) ∧ (1 ≤ p ∧ p ≤ 20)) : RCa w C (va_up (va_up A 2 (fu (F 16) x n)) 3 (fu (F 17) x p)) I (va_up (va_up F 16 (fu (F 16) x n)) 17 (fu (F 17) x p)) := ⟨hR.w1, hR.w2, hR.t1, hR.t2, rfl, (fun j j1 j2 => by show _ ≤ fu (F 16) x _ j ∧ fu (F 16) x _ j ≤ _; by_cases q : j = x; (· rw [q, fu_s]; omega); (· rw [fu_n q]; exact hR.b16 j j1 j2)), rfl, (fun j j1 j2 => by show _ ≤ fu (F 17) x _ j ∧ fu (F 17) x _ j ≤ _; by_cases q : j = x; (· rw [q, fu_s]; omega); (· rw [fu_n q]; exact hR.b17 j j1 j2)), hR.c18, hR.b18, fun c l q1 q2 q3 q4 => by rw [va_up_ne _ _ (by omega), va_up_ne _ _ (by omega)]; exact hR.a19 c l q1 q2 q3 q4, hR.b19, fun c l q1 q2 q3 q4 => by rw [va_up_ne _ _ (by omega), va_up_ne _ _ (by omega)]; exact hR.a20 c l q1 q2 q3 q4, hR.b20, hR.z20, fun c l q1 q2 q3 q4 => by rw [va_up_ne _ _ (by omega), va_up_ne _ _ (by omega)]; exact hR.a22 c l q1 q2 q3 q4, fun c l q1 q2 q3 q4 => by rw [va_up_ne _ _ (by omega), va_up_ne _ _ (by omega)]; exact hR.a23 c l q1 q2 q3 q4, fun c l q1 q2 q3 q4 => by rw [va_up_ne _ _ (by omega), va_up_ne _ _ (by omega)]; exact hR.a24 c l q1 q2 q3 q4, fun c l q1 q2 q3 q4 => by rw [va_up_ne _ _ (by omega), va_up_ne _ _ (by omega)]; exact hR.a25 c l q1 q2 q3 q4, hR.b22, hR.b23, hR.b24, hR.b25, hR.c26, hR.b26⟩
theorem RSx.hd {w : Nat} {C : Nat → Nat → Int} {A : Nat → Int → Int} {V : Nat → Value} {h : Nat → va_E} {nx : Nat} {I : Nat → Int} {F : Nat → Int → Int} {ca : Nat → Nat} {sa : Nat → Nat → Nat} {own : Nat → Nat} {x n p : Int} (hS : RSx w C A V h nx I F ca sa own) (hok : (0 ≤ x ∧ x ≤ 5) ∧ (1 ≤ n ∧ n ≤ 40) ∧ (1 ≤ p ∧ p ≤ 20)) : RSx w C (va_up (va_up A 2 (fu (F 16) x n)) 3 (fu (F 17) x p)) V h nx I (va_up (va_up F 16 (fu (F 16) x n)) 17 (fu (F 17) x p)) ca sa own := by
  exact ⟨hS.dy.cong (fun _ _ => rfl) (rfl) rfl rfl rfl rfl rfl rfl, hS.ca.hd hok, hS.sh.cong (fun _ _ _ => rfl) (fun q q1 _ => by rw [va_up_ne _ _ (by omega), va_up_ne _ _ (by omega)]) (fun _ _ _ => rfl) (Nat.le_refl _) (fun _ _ _ q => ⟨q, rfl⟩) rfl rfl rfl rfl rfl rfl, hS.vi.cong (rfl) (by rw [va_up_ne _ _ (by omega), va_up_ne _ _ (by omega)]) (by rw [va_up_ne _ _ (by omega), va_up_ne _ _ (by omega)]) (by rw [va_up_ne _ _ (by omega), va_up_ne _ _ (by omega)]) (by rw [va_up_ne _ _ (by omega), va_up_ne _ _ (by omega)]) rfl rfl, hS.c7, by rw [show (va_up (va_up A 2 (fu (F 16) x n)) 3 (fu (F 17) x p)) 232 = A 232 from by rw [va_up_ne _ _ (by omega), va_up_ne _ _ (by omega)]]; exact hS.k7, hS.h3, hS.nx, hS.out⟩
theorem RCa.fd {w : Nat} {C : Nat → Nat → Int} {A : Nat → Int → Int} {I : Nat → Int} {F : Nat → Int → Int} {r i c : Int} (hR : RCa w C A I F) (hok : ((0 ≤ r ∧ r ≤ I 21 - 1) ∧ (0 ≤ i ∧ i ≤ I 1 - 1)) ∧ (0 ≤ c ∧ c ≤ 7)) : RCa w C (va_up A (30 + 5 * r.toNat + 2) (fu (A (30 + 5 * r.toNat + 2)) i c)) I (va_up F 23 (fu (F 23) (40 * r + i) c)) := by
  have t2 := hR.t2
  have w1 := hR.w1
  have w2 := hR.w2
  exact ⟨hR.w1, hR.w2, hR.t1, hR.t2, by rw [va_up_ne _ _ (by omega)]; exact hR.a2, hR.b16, by rw [va_up_ne _ _ (by omega)]; exact hR.a3, hR.b17, hR.c18, hR.b18, fun c l q1 q2 q3 q4 => by rw [va_up_ne _ _ (by omega)]; exact hR.a19 c l q1 q2 q3 q4, hR.b19, fun c l q1 q2 q3 q4 => by rw [va_up_ne _ _ (by omega)]; exact hR.a20 c l q1 q2 q3 q4, hR.b20, hR.z20, fun c l q1 q2 q3 q4 => by rw [va_up_ne _ _ (by omega)]; exact hR.a22 c l q1 q2 q3 q4, fun c' l q1 q2 q3 q4 => by
    show _ = fu (F 23) (40 * r + i) c (40 * c' + l)
    by_cases q : c' = r
    · rw [q, va_up_self]
      by_cases s : l = i
      · rw [s, fu_s, fu_s]
      · rw [fu_n s, fu_n (by omega)]; rw [← q]; exact hR.a23 c' l q1 q2 q3 q4
    · rw [va_up_ne _ _ (by omega), fu_n (by omega)]; exact hR.a23 c' l q1 q2 q3 q4, fun c l q1 q2 q3 q4 => by rw [va_up_ne _ _ (by omega)]; exact hR.a24 c l q1 q2 q3 q4, fun c l q1 q2 q3 q4 => by rw [va_up_ne _ _ (by omega)]; exact hR.a25 c l q1 q2 q3 q4, hR.b22, (fun j j1 j2 => by show _ ≤ fu (F 23) (40 * r + i) _ j ∧ fu (F 23) (40 * r + i) _ j ≤ _; by_cases q : j = (40 * r + i); (· rw [q, fu_s]; omega); (· rw [fu_n q]; exact hR.b23 j j1 j2)), hR.b24, hR.b25, hR.c26, hR.b26⟩
theorem RSx.fd {w : Nat} {C : Nat → Nat → Int} {A : Nat → Int → Int} {V : Nat → Value} {h : Nat → va_E} {nx : Nat} {I : Nat → Int} {F : Nat → Int → Int} {ca : Nat → Nat} {sa : Nat → Nat → Nat} {own : Nat → Nat} {r i c : Int} (hS : RSx w C A V h nx I F ca sa own) (hok : ((0 ≤ r ∧ r ≤ I 21 - 1) ∧ (0 ≤ i ∧ i ≤ I 1 - 1)) ∧ (0 ≤ c ∧ c ≤ 7)) (t2 : I 21 ≤ 40) : RSx w C (va_up A (30 + 5 * r.toNat + 2) (fu (A (30 + 5 * r.toNat + 2)) i c)) V h nx I (va_up F 23 (fu (F 23) (40 * r + i) c)) ca sa own := by
  exact ⟨hS.dy.cong (fun _ _ => rfl) (rfl) rfl rfl rfl rfl rfl rfl, hS.ca.fd hok, hS.sh.cong (fun _ _ _ => rfl) (fun q q1 _ => by rw [va_up_ne _ _ (by omega)]) (fun _ _ _ => rfl) (Nat.le_refl _) (fun _ _ _ q => ⟨q, rfl⟩) rfl rfl rfl rfl rfl rfl, hS.vi.cong (rfl) (by rw [va_up_ne _ _ (by omega)]) (by rw [va_up_ne _ _ (by omega)]) (by rw [va_up_ne _ _ (by omega)]) (by rw [va_up_ne _ _ (by omega)]) rfl rfl, hS.c7, by rw [show (va_up A (30 + 5 * r.toNat + 2) (fu (A (30 + 5 * r.toNat + 2)) i c)) 232 = A 232 from by rw [va_up_ne _ _ (by omega)]]; exact hS.k7, hS.h3, hS.nx, hS.out⟩
theorem RCa.ct {w : Nat} {C : Nat → Nat → Int} {A : Nat → Int → Int} {I : Nat → Int} {F : Nat → Int → Int} (hR : RCa w C A I F) (hok : 0 < I 21) : RCa w (va_up C 1 (va_up (C 1) 5 (I 21 - 1))) A (va_up I 21 (I 21 - 1)) F := ⟨hR.w1, hR.w2, rfl, by have := hR.t2; show 0 ≤ I 21 - 1 ∧ I 21 - 1 ≤ 40; omega, hR.a2, hR.b16, hR.a3, hR.b17, fun c q1 q2 => by rw [va_up_ne _ _ (by omega)]; exact hR.c18 c q1 q2, hR.b18, hR.a19, hR.b19, hR.a20, hR.b20, hR.z20, hR.a22, hR.a23, hR.a24, hR.a25, hR.b22, hR.b23, hR.b24, hR.b25, fun c q1 q2 => by rw [va_up_ne _ _ (by omega)]; exact hR.c26 c q1 q2, hR.b26⟩
theorem RSx.ct {w : Nat} {C : Nat → Nat → Int} {A : Nat → Int → Int} {V : Nat → Value} {h : Nat → va_E} {nx : Nat} {I : Nat → Int} {F : Nat → Int → Int} {ca : Nat → Nat} {sa : Nat → Nat → Nat} {own : Nat → Nat}  (hS : RSx w C A V h nx I F ca sa own) (hok : 0 < I 21) : RSx w (va_up C 1 (va_up (C 1) 5 (I 21 - 1))) A V h nx (va_up I 21 (I 21 - 1)) F ca sa own := by
  exact ⟨hS.dy.cong (fun _ _ => rfl) (by rw [va_up_ne _ _ (by omega)]) rfl rfl rfl rfl rfl rfl, hS.ca.ct hok, hS.sh.cong (fun q q1 _ => by rw [va_up_ne _ _ (by omega)]) (fun _ _ _ => rfl) (fun _ _ _ => rfl) (Nat.le_refl _) (fun _ _ _ q => ⟨q, rfl⟩) rfl rfl rfl rfl rfl rfl, hS.vi.cong (by rw [va_up_ne _ _ (by omega)]) (rfl) (rfl) (rfl) (rfl) rfl rfl, hS.c7, by rw [show A 232 = A 232 from rfl]; exact hS.k7, hS.h3, hS.nx, hS.out⟩
theorem RCa.dy {w : Nat} {C : Nat → Nat → Int} {A : Nat → Int → Int} {I : Nat → Int} {F : Nat → Int → Int} {c s n : Int} (hR : RCa w C A I F) (hok : (0 ≤ c ∧ c ≤ 7) ∧ (0 ≤ s ∧ s ≤ 9) ∧ (1 ≤ n ∧ n ≤ 1000)) (hf : 0 ≤ F 18 c ∧ F 18 c < 10) : RCa w (va_up C (6 + 3 * c.toNat) (va_up (C (6 + 3 * c.toNat)) 2 (F 18 c + 1))) (va_up (va_up A (6 + 3 * c.toNat + 1) (fu (A (6 + 3 * c.toNat + 1)) (F 18 c) s)) (6 + 3 * c.toNat + 2) (fu (A (6 + 3 * c.toNat + 2)) (F 18 c) n)) I (va_up (va_up (va_up F 19 (fu (F 19) (10 * c + F 18 c) s)) 20 (fu (F 20) (10 * c + F 18 c) n)) 18 (fu (F 18) c (F 18 c + 1))) := by
  exact ⟨hR.w1, hR.w2, by rw [va_up_ne _ _ (by omega)]; exact hR.t1, hR.t2, by rw [va_up_ne _ _ (by omega), va_up_ne _ _ (by omega)]; exact hR.a2, hR.b16, by rw [va_up_ne _ _ (by omega), va_up_ne _ _ (by omega)]; exact hR.a3, hR.b17, fun c' q1 q2 => by
    show _ = fu (F 18) c (F 18 c + 1) c'
    by_cases q : c' = c
    · rw [q, va_up_self, fu_s]; rfl
    · rw [va_up_ne _ _ (by omega), fu_n q]; exact hR.c18 c' q1 q2, fun j j1 j2 => by
    show 0 ≤ fu (F 18) c (F 18 c + 1) j ∧ fu (F 18) c (F 18 c + 1) j ≤ 10
    by_cases q : j = c
    · rw [q, fu_s]; omega
    · rw [fu_n q]; exact hR.b18 j j1 j2, fun c' l q1 q2 q3 q4 => by
    show _ = fu (F 19) (10 * c + F 18 c) s (10 * c' + l)
    by_cases q : c' = c
    · rw [q, va_up_ne _ _ (by omega), va_up_self]
      by_cases z : l = F 18 c
      · rw [z, fu_s, fu_s]
      · rw [fu_n z, fu_n (by omega)]; rw [← q]; exact hR.a19 c' l q1 q2 q3 q4
    · rw [va_up_ne _ _ (by omega), va_up_ne _ _ (by omega), fu_n (by omega)]; exact hR.a19 c' l q1 q2 q3 q4, (fun j j1 j2 => by show _ ≤ fu (F 19) (10 * c + F 18 c) _ j ∧ fu (F 19) (10 * c + F 18 c) _ j ≤ _; by_cases q : j = (10 * c + F 18 c); (· rw [q, fu_s]; omega); (· rw [fu_n q]; exact hR.b19 j j1 j2)), fun c' l q1 q2 q3 q4 => by
    show _ = fu (F 20) (10 * c + F 18 c) n (10 * c' + l)
    by_cases q : c' = c
    · rw [q, va_up_self]
      by_cases z : l = F 18 c
      · rw [z, fu_s, fu_s]
      · rw [fu_n z, fu_n (by omega)]; rw [← q]; exact hR.a20 c' l q1 q2 q3 q4
    · rw [va_up_ne _ _ (by omega), va_up_ne _ _ (by omega), fu_n (by omega)]; exact hR.a20 c' l q1 q2 q3 q4, (fun j j1 j2 => by show _ ≤ fu (F 20) (10 * c + F 18 c) _ j ∧ fu (F 20) (10 * c + F 18 c) _ j ≤ _; by_cases q : j = (10 * c + F 18 c); (· rw [q, fu_s]; omega); (· rw [fu_n q]; exact hR.b20 j j1 j2)), fun c' l q1 q2 q3 q4 => by
    show fu (F 20) (10 * c + F 18 c) n (10 * c' + l) = 0
    have q3 : fu (F 18) c (F 18 c + 1) c' ≤ l := q3
    by_cases q : c' = c
    · rw [q, fu_s] at q3
      rw [fu_n (by omega)]; exact hR.z20 c' l q1 q2 (by rw [q]; omega) q4
    · rw [fu_n q] at q3
      have := hR.b18 c' q1 q2
      rw [fu_n (by omega)]; exact hR.z20 c' l q1 q2 q3 q4, fun c l q1 q2 q3 q4 => by rw [va_up_ne _ _ (by omega), va_up_ne _ _ (by omega)]; exact hR.a22 c l q1 q2 q3 q4, fun c l q1 q2 q3 q4 => by rw [va_up_ne _ _ (by omega), va_up_ne _ _ (by omega)]; exact hR.a23 c l q1 q2 q3 q4, fun c l q1 q2 q3 q4 => by rw [va_up_ne _ _ (by omega), va_up_ne _ _ (by omega)]; exact hR.a24 c l q1 q2 q3 q4, fun c l q1 q2 q3 q4 => by rw [va_up_ne _ _ (by omega), va_up_ne _ _ (by omega)]; exact hR.a25 c l q1 q2 q3 q4, hR.b22, hR.b23, hR.b24, hR.b25, fun c q1 q2 => by rw [va_up_ne _ _ (by omega)]; exact hR.c26 c q1 q2, hR.b26⟩
theorem RSx.dye {w : Nat} {C : Nat → Nat → Int} {A : Nat → Int → Int} {V : Nat → Value} {h : Nat → va_E} {nx : Nat} {I : Nat → Int} {F : Nat → Int → Int} {ca : Nat → Nat} {sa : Nat → Nat → Nat} {own : Nat → Nat} {c s n : Int} (hS : RSx w C A V h nx I F ca sa own) (hok : (0 ≤ c ∧ c ≤ 7) ∧ (0 ≤ s ∧ s ≤ 9) ∧ (1 ≤ n ∧ n ≤ 1000)) (hf : 0 ≤ F 18 c ∧ F 18 c < 10) : RSx w (va_up C (6 + 3 * c.toNat) (va_up (C (6 + 3 * c.toNat)) 2 (F 18 c + 1))) (va_up (va_up A (6 + 3 * c.toNat + 1) (fu (A (6 + 3 * c.toNat + 1)) (F 18 c) s)) (6 + 3 * c.toNat + 2) (fu (A (6 + 3 * c.toNat + 2)) (F 18 c) n)) V h nx I (va_up (va_up (va_up F 19 (fu (F 19) (10 * c + F 18 c) s)) 20 (fu (F 20) (10 * c + F 18 c) n)) 18 (fu (F 18) c (F 18 c + 1))) ca sa own := by
  exact ⟨hS.dy.cong (fun _ _ => rfl) (by rw [va_up_ne _ _ (by omega)]) rfl rfl rfl rfl rfl rfl, hS.ca.dy hok hf, hS.sh.cong (fun q q1 _ => by rw [va_up_ne _ _ (by omega)]) (fun q q1 _ => by rw [va_up_ne _ _ (by omega), va_up_ne _ _ (by omega)]) (fun _ _ _ => rfl) (Nat.le_refl _) (fun _ _ _ q => ⟨q, rfl⟩) rfl rfl rfl rfl rfl rfl, hS.vi.cong (by rw [va_up_ne _ _ (by omega)]) (by rw [va_up_ne _ _ (by omega), va_up_ne _ _ (by omega)]) (by rw [va_up_ne _ _ (by omega), va_up_ne _ _ (by omega)]) (by rw [va_up_ne _ _ (by omega), va_up_ne _ _ (by omega)]) (by rw [va_up_ne _ _ (by omega), va_up_ne _ _ (by omega)]) rfl rfl, hS.c7, by rw [show (va_up (va_up A (6 + 3 * c.toNat + 1) (fu (A (6 + 3 * c.toNat + 1)) (F 18 c) s)) (6 + 3 * c.toNat + 2) (fu (A (6 + 3 * c.toNat + 2)) (F 18 c) n)) 232 = A 232 from by rw [va_up_ne _ _ (by omega), va_up_ne _ _ (by omega)]]; exact hS.k7, hS.h3, hS.nx, hS.out⟩
theorem s_hand {l0 : Launch} {g : Gw} {w : Nat} {x n p : Int} (hx : inR x) (hn : inR n) (hp : inR p) : SIM l0 g w mX8_hand mX9_hand [.int (iI x), .int (iI n), .int (iI p)] := sim_of fun C A V h nx I F ca sa own hS => by
  by_cases b : ((0 ≤ x ∧ x ≤ 5) ∧ (1 ≤ n ∧ n ≤ 40) ∧ (1 ≤ p ∧ p ≤ 20)) ∧ I 21 = 0
  · exact sim_md (by decide) (by decide) (by decide) (by decide) (k_X8_hand1 hS.ca b.1 b.2) (k_X9_hand1 b.1 hS.ca.b16 hS.ca.b17 b.2) (hS.hd b.1)
  · have t2 := hS.ca.t2
    have b2 : ¬ ((0 ≤ x ∧ x ≤ 5) ∧ (1 ≤ n ∧ n ≤ 40) ∧ (1 ≤ p ∧ p ≤ 20)) ∨ 0 < I 21 := by omega
    exact sim_md (by decide) (by decide) (by decide) (by decide) (k_X8_hand0 hS.ca hx hn hp b2) (k_X9_hand0 hx hn hp t2 b2) hS
theorem s_dye {l0 : Launch} {g : Gw} {w : Nat} {c s n : Int} (hc : inR c) (hs : inR s) (hn : inR n) : SIM l0 g w mX8_dye mX9_dye [.int (iI c), .int (iI s), .int (iI n)] := sim_of fun C A V h nx I F ca sa own hS => by
  by_cases b : (0 ≤ c ∧ c ≤ 7) ∧ (0 ≤ s ∧ s ≤ 9) ∧ (1 ≤ n ∧ n ≤ 1000)
  · have hb := hS.ca.b18 c b.1.1 b.1.2
    by_cases b2 : F 18 c = 10
    · exact sim_md (by decide) (by decide) (by decide) (by decide) (k_X8_dye0 hS.ca hc hs hn (.inr b2)) (k_X9_dye0 hc hs hn hS.ca.b18 (.inr b2)) hS
    · exact sim_md (by decide) (by decide) (by decide) (by decide) (k_X8_dye1 hS.ca b (by omega)) (k_X9_dye1 b (by omega)) (hS.dye b (by omega))
  · exact sim_md (by decide) (by decide) (by decide) (by decide) (k_X8_dye0 hS.ca hc hs hn (.inl b)) (k_X9_dye0 hc hs hn hS.ca.b18 (.inl b)) hS
theorem s_found {l0 : Launch} {g : Gw} {w : Nat} {r i c : Int} (hr : inR r) (hi : inR i) (hc : inR c) : SIM l0 g w mX8_found mX9_found [.int (iI r), .int (iI i), .int (iI c)] := sim_of fun C A V h nx I F ca sa own hS => by
  by_cases b : ((0 ≤ r ∧ r ≤ I 21 - 1) ∧ (0 ≤ i ∧ i ≤ I 1 - 1)) ∧ (0 ≤ c ∧ c ≤ 7)
  · exact sim_md (by decide) (by decide) (by decide) (by decide) (k_X8_found1 hS.ca b) (k_X9_found1 b hS.ca.t2 hS.ca.i1 hS.ca.b22 hS.ca.b23) (hS.fd b hS.ca.t2.2)
  · exact sim_md (by decide) (by decide) (by decide) (by decide) (k_X8_found0 hS.ca hr hi hc b) (k_X9_found0 hr hi hc hS.ca.t2 hS.ca.i1 b) hS
theorem s_cut {l0 : Launch} {g : Gw} {w : Nat} : SIM l0 g w mX8_cut mX9_cut [] := sim_of fun C A V h nx I F ca sa own hS => by
  have t2 := hS.ca.t2
  by_cases b : I 21 = 0
  · exact sim_md (by decide) (by decide) (by decide) (by decide) (k_X8_cut0 hS.ca b) (k_X9_cut0 b) hS
  · exact sim_md (by decide) (by decide) (by decide) (by decide) (k_X8_cut1 hS.ca (by omega)) (k_X9_cut1 (by omega) t2) (hS.ct (by omega))
