/-! RIVALS: class and reference answer alike (by p87.py) -/
def stR (v : Nat) : List Ed := (List.range' 1 (v - 1)).map (fun b => (0, b))
theorem D1 : ∀ v : Fin 7, ∀ j, j < psN v.val → (prN v.val j).1 < (prN v.val j).2 ∧ (prN v.val j).2 < v.val := by decide +kernel
theorem D2 : ∀ v : Fin 7, ((List.range' 0 (psN v.val)).map (prN v.val)).Nodup := by decide +kernel
theorem D3 : ∀ v : Fin 7, ∀ c, c < v.val → ∀ a, a < c → (a, c) ∈ (List.range' 0 (psN v.val)).map (prN v.val) := by decide +kernel
theorem D4 : ∀ v : Fin 7, acL (stR v.val) (List.range' 0 v.val) = true := by decide +kernel
theorem D5 : ∀ v : Fin 7, psN v.val ≤ 15 := by decide +kernel
theorem ckA_all {v : Nat} (hv : 1 ≤ v ∧ v ≤ 6) : ckA v = true ∧ ckB v = true ∧ ckC v = true := by
  rcases (show v = 1 ∨ v = 2 ∨ v = 3 ∨ v = 4 ∨ v = 5 ∨ v = 6 by omega) with z | z | z | z | z | z <;> subst z
  · exact ⟨ckA_1, ckB_1, ckC_1⟩
  · exact ⟨ckA_2, ckB_2, ckC_2⟩
  · exact ⟨ckA_3, ckB_3, ckC_3⟩
  · exact ⟨ckA_4, ckB_4, ckC_4⟩
  · exact ⟨ckA_5, ckB_5, ckC_5⟩
  · exact ⟨ckA_6, ckB_6, ckC_6⟩
theorem gid_L {v : Nat} : ∀ i : Nat, i < v → gId (i : Int) = (((List.range' 0 v).getD i 0 : Nat) : Int) := fun i hi => by
  rw [List.getD_eq_getElem?_getD, List.getElem?_range' hi]
  simp [gId]
theorem wts_perm {v : Nat} (hv : 1 ≤ v ∧ v ≤ 6) (W : Int → Int) : (((List.range' 0 (2 ^ psN v)).filter (okM v (psN v) (prN v))).map (fun m => wL W ((bl (psN v) 0 m).map (prN v)))).Perm ((TR 63 (2 ^ v - 1)).map (wL W)) := by
  obtain ⟨cA, cB, cC⟩ := ckA_all hv
  have hd : ∀ j, j < psN v → (prN v j).1 < v ∧ (prN v j).2 < v := fun j hj => by have := D1 ⟨v, by omega⟩ j hj; have h1 : (prN v j).1 < (prN v j).2 := this.1; have h2 : (prN v j).2 < v := this.2; omega
  have e1 : (List.range' 0 (2 ^ psN v)).filter (okM v (psN v) (prN v)) = (List.range' 0 (2 ^ psN v)).filter (okR v (v - 1) (List.range' 0 v) ∘ bl (psN v) 0) := by
    refine List.filter_congr (fun m _ => ?_)
    rw [okM_L hd]
    unfold okQ
    show _ = (((bl (psN v) 0 m).length == v - 1) && _)
    congr 1
    rw [Bool.eq_iff_iff, beq_iff_eq, beq_iff_eq]
    omega
  have e2 : (((List.range' 0 (2 ^ psN v)).filter (okM v (psN v) (prN v))).map (bl (psN v) 0)).Perm (dfL v) := by
    rw [e1, ← List.filter_map]
    exact dfs_perm v (psN v) 0 (v - 1) (List.range' 0 v)
  have e3 : (((List.range' 0 (2 ^ psN v)).filter (okM v (psN v) (prN v))).map (fun m => wL W ((bl (psN v) 0 m).map (prN v)))) = (((List.range' 0 (2 ^ psN v)).filter (okM v (psN v) (prN v))).map (bl (psN v) 0)).map (fun r => wL W (r.map (prN v))) := by
    rw [List.map_map]
    rfl
  rw [e3]
  refine (e2.map _).trans ?_
  have e4 : (dfL v).map (fun r => wL W (r.map (prN v))) = ((dfL v).map kyI).map (fun m => wL W ((bl (psN v) 0 m).map (prN v))) := by
    rw [List.map_map]
    refine List.map_congr_left (fun r hr => ?_)
    have := List.all_eq_true.mp cC r hr
    show _ = wL W ((bl (psN v) 0 (kyI r)).map (prN v))
    rw [eq_of_beq this]
  have e5 : (TR 63 (2 ^ v - 1)).map (wL W) = ((TR 63 (2 ^ v - 1)).map (kyE v)).map (fun m => wL W ((bl (psN v) 0 m).map (prN v))) := by
    rw [List.map_map]
    refine List.map_congr_left (fun l hl => ?_)
    have := List.all_eq_true.mp cA l hl
    show _ = wL W ((bl (psN v) 0 (kyE v l)).map (prN v))
    rw [← eq_of_beq this, wL_sr]
  rw [e4, e5]
  refine List.Perm.map _ ?_
  have s1 := mst_perm 11 (((TR 63 (2 ^ v - 1)).map (kyE v)).map (fun x => [x]))
  have s2 := mst_perm 11 (((dfL v).map kyI).map (fun x => [x]))
  rw [flat_one] at s1 s2
  have s3 : mst 11 (((TR 63 (2 ^ v - 1)).map (kyE v)).map (fun x => [x])) = mst 11 (((dfL v).map kyI).map (fun x => [x])) := eq_of_beq cB
  rw [s3] at s1
  exact s2.symm.trans s1
theorem riv_eq {W A B f l0 g : Int → Int} {v : Nat} {p : SP} (hv : 1 ≤ v ∧ v ≤ 6) (hA : ∀ j : Nat, j < psN v → A (j : Int) = ((prN v j).1 : Int) ∧ B (j : Int) = ((prN v j).2 : Int)) : (rvA W A B v (psN v : Int) (trF W v 9 0 (idA v 0 f, l0, 0, 0)).2.2.2 (2 ^ psN v) 0 0 g).1 = (rtA W (2 ^ v - 1) 1 p).2 (2 ^ v - 1) := by
  obtain ⟨m, hM⟩ := riv_T W v hv p
  have hd : ∀ j, j < psN v → (prN v j).1 < (prN v j).2 ∧ (prN v j).2 < v := fun j hj => D1 ⟨v, by omega⟩ j hj
  have hc := rvA_cnt (W := W) (A := A) (B := B) (v := v) (ps := psN v) (pr := prN v) (sum := (trF W v 9 0 (idA v 0 f, l0, 0, 0)).2.2.2) (D5 ⟨v, by omega⟩) (fun j hj => ⟨hA j hj, by have := hd j hj; omega, (hd j hj).2⟩) (2 ^ psN v) 0 0 g (by omega)
  have hp := wts_perm hv W
  have s1 : inV v (stR v) := fun e he => by
    obtain ⟨b, b1, b2⟩ := List.mem_map.mp he
    rw [List.mem_range'_1] at b1
    rw [← b2]
    exact ⟨by show 0 < v; omega, by show b < v; omega⟩
  have s2 : ltE (stR v) := fun e he => by
    obtain ⟨b, b1, b2⟩ := List.mem_map.mp he
    rw [List.mem_range'_1] at b1
    rw [← b2]
    show 0 < b
    omega
  have s3 : acG v (stR v) gId = true := by rw [acL_acG (stR v) (List.range' 0 v) gId s1 (by simp) gid_L]; exact D4 ⟨v, by omega⟩
  have s4 : (stR v).length + 1 = v := by unfold stR; rw [List.length_map, List.length_range']; omega
  obtain ⟨⟨E, k1, k2, k3, k4, k5⟩, kL⟩ := kruskal (W := W) (v := v) (f := f) (l0 := l0) (by omega) s1 s2 s3 s4
  generalize (trF W v 9 0 (idA v 0 f, l0, 0, 0)).2.2.2 = sum at *
  have hin : ∀ m, inV v ((bl (psN v) 0 m).map (prN v)) ∧ ltE ((bl (psN v) 0 m).map (prN v)) := fun m => ⟨fun e he => by
      obtain ⟨j, j1, j2⟩ := List.mem_map.mp he
      have j3 := bl_mem _ _ _ _ j1
      have := hd j (by omega)
      rw [← j2]
      omega, fun e he => by
      obtain ⟨j, j1, j2⟩ := List.mem_map.mp he
      have j3 := bl_mem _ _ _ _ j1
      have := hd j (by omega)
      rw [← j2]
      omega⟩
  have hle : ∀ x ∈ (((List.range' 0 (2 ^ psN v)).filter (okM v (psN v) (prN v))).map (fun m => wL W ((bl (psN v) 0 m).map (prN v)))), sum ≤ x := fun x hx => by
    obtain ⟨m, m1, m2⟩ := List.mem_map.mp hx
    rw [List.mem_filter] at m1
    have m3 := m1.2
    unfold okM at m3
    rw [Bool.and_eq_true, beq_iff_eq] at m3
    rw [← m2]
    exact kL _ (hin m).1 (hin m).2 m3.2 (by rw [List.length_map]; exact m3.1)
  obtain ⟨r1, r2, r3, k, r4, r5, r6, r7⟩ := sk_all (v := v) (pr := prN v) (E := E) (List.range' 0 (psN v)) gId (part_id v) (fun p hp => by rw [List.mem_range'_1] at hp; have := hd p (by omega); omega)
  have fE := forest r4 (fun _ => true) E gId gId (part_id v) (RF_r _ _) r5 k1 k3 (fun e he _ => by
    have h3 := D3 ⟨v, by omega⟩ e.2 (k1 e he).2 e.1 (k2 e he)
    obtain ⟨q, q1, q2⟩ := List.mem_map.mp h3
    have q3 : prN v q = e := q2
    have := r7 q q1 (by rw [q3]; exact he)
    rw [q3] at this
    exact this)
  rw [gCt_id, List.filter_eq_self.mpr (fun _ _ => rfl)] at fE
  rw [gCt_id] at r6
  have hk := (gInv_links (v := v) (t := (k, (fun _ => 0), gCt k v, 0)) ⟨r4, rfl⟩ (by omega)).2
  have hk2 : gCt k v ≤ (v : Int) - 1 := hk
  obtain ⟨x, x1, x2⟩ := bl_of (psN v) 0 _ r1
  have hx : wL W ((bl (psN v) 0 x).map (prN v)) ≤ sum := by
    rw [x2, ← k5, ← sm_wL, ← sm_wL]
    refine sm_sub (fun e => (wE_rng W e).1) _ _ ((D2 ⟨v, by omega⟩).sublist (r1.map (prN v))) (fun e he => ?_)
    obtain ⟨j, j1, j2⟩ := List.mem_map.mp he
    rw [← j2]
    exact r3 j j1
  have hxM : wL W ((bl (psN v) 0 x).map (prN v)) ∈ (((List.range' 0 (2 ^ psN v)).filter (okM v (psN v) (prN v))).map (fun m => wL W ((bl (psN v) 0 m).map (prN v)))) := by
    refine List.mem_map.mpr ⟨x, ?_, rfl⟩
    rw [List.mem_filter]
    refine ⟨by rw [List.mem_range'_1]; omega, ?_⟩
    unfold okM
    rw [Bool.and_eq_true, beq_iff_eq, x2]
    exact ⟨by omega, r2⟩
  have m1 := hM.1 _ (hp.mem_iff.mp hxM)
  have m2 := hle m (hp.mem_iff.mpr (Mn_mem hM))
  have m3 : sum = m := by omega
  have hc2 : (rvA W A B v (psN v : Int) sum (2 ^ psN v) 0 0 g).1 = _ := hc
  rw [hc2, hp.count_eq, m3, Int.zero_add]
  exact hM.2.1
theorem pp_tab {f k : Int → Int} {v : Nat} (hv : 1 ≤ v ∧ v ≤ 6) : (ppA (v : Int) v 0 (f, k, 0)).2.2 = (psN v : Int) ∧ ∀ j : Nat, j < psN v → (ppA (v : Int) v 0 (f, k, 0)).1 (j : Int) = ((prN v j).1 : Int) ∧ (ppA (v : Int) v 0 (f, k, 0)).2.1 (j : Int) = ((prN v j).2 : Int) := by
  rcases (show v = 1 ∨ v = 2 ∨ v = 3 ∨ v = 4 ∨ v = 5 ∨ v = 6 by omega) with z | z | z | z | z | z <;> subst z
  · exact ⟨rfl, fun j hj => absurd hj (by show ¬ j < 0; omega)⟩
  · refine ⟨rfl, fun j hj => ?_⟩
    have hj : j < 1 := hj
    rcases (show j = 0 by omega) with z <;> (subst z; exact ⟨rfl, rfl⟩)
  · refine ⟨rfl, fun j hj => ?_⟩
    have hj : j < 3 := hj
    rcases (show j = 0 ∨ j = 1 ∨ j = 2 by omega) with z | z | z <;> (subst z; exact ⟨rfl, rfl⟩)
  · refine ⟨rfl, fun j hj => ?_⟩
    have hj : j < 6 := hj
    rcases (show j = 0 ∨ j = 1 ∨ j = 2 ∨ j = 3 ∨ j = 4 ∨ j = 5 by omega) with z | z | z | z | z | z <;> (subst z; exact ⟨rfl, rfl⟩)
  · refine ⟨rfl, fun j hj => ?_⟩
    have hj : j < 10 := hj
    rcases (show j = 0 ∨ j = 1 ∨ j = 2 ∨ j = 3 ∨ j = 4 ∨ j = 5 ∨ j = 6 ∨ j = 7 ∨ j = 8 ∨ j = 9 by omega) with z | z | z | z | z | z | z | z | z | z <;> (subst z; exact ⟨rfl, rfl⟩)
  · refine ⟨rfl, fun j hj => ?_⟩
    have hj : j < 15 := hj
    rcases (show j = 0 ∨ j = 1 ∨ j = 2 ∨ j = 3 ∨ j = 4 ∨ j = 5 ∨ j = 6 ∨ j = 7 ∨ j = 8 ∨ j = 9 ∨ j = 10 ∨ j = 11 ∨ j = 12 ∨ j = 13 ∨ j = 14 by omega) with z | z | z | z | z | z | z | z | z | z | z | z | z | z | z <;> (subst z; exact ⟨rfl, rfl⟩)
