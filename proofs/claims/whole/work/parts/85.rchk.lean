/-! RIVALS: the lists of trees, for each number of villages (by p85.py) -/
def prs (v : Nat) : List Ed := (List.range' 0 v).flatMap (fun a => (List.range' (a + 1) (v - (a + 1))).map (fun b => (a, b)))
def prN (v p : Nat) : Ed := (prs v).getD p (0, 0)
def psN (v : Nat) : Nat := v * (v - 1) / 2
def acL : List Ed → List Nat → Bool
  | [], _ => true
  | e :: l, L => ! (L.getD e.1 0 == L.getD e.2 0) && acL l (L.map (fun z => if z == L.getD e.2 0 then L.getD e.1 0 else z))
theorem acL_acG {v : Nat} : ∀ (l : List Ed) (L : List Nat) (g : Int → Int), inV v l → L.length = v → (∀ i : Nat, i < v → g (i : Int) = ((L.getD i 0 : Nat) : Int)) → acG v l g = acL l L := by
  intro l
  induction l with
  | nil => intro L g _ _ _; rfl
  | cons e l ih =>
    intro L g hl hL hg
    obtain ⟨h1, h2⟩ := inV_c hl
    show (! (g (e.1 : Int) == g (e.2 : Int)) && acG v l (joinA (g (e.2 : Int)) (g (e.1 : Int)) v 0 g)) = (! (L.getD e.1 0 == L.getD e.2 0) && acL l (L.map (fun z => if z == L.getD e.2 0 then L.getD e.1 0 else z)))
    rw [ih (L.map (fun z => if z == L.getD e.2 0 then L.getD e.1 0 else z)) _ h2 (by rw [List.length_map]; exact hL) (fun i hi => ?_)]
    · congr 2
      rw [hg _ h1.1, hg _ h1.2]
      by_cases q : L.getD e.1 0 = L.getD e.2 0
      · rw [q]; simp
      · have q2 : ¬ ((L.getD e.1 0 : Nat) : Int) = ((L.getD e.2 0 : Nat) : Int) := by omega
        rw [beq_eq_false_iff_ne.mpr q, beq_eq_false_iff_ne.mpr q2]
    · rw [jn_at (by omega), hg i hi, hg _ h1.1, hg _ h1.2]
      rw [List.getD_eq_getElem?_getD (l := List.map _ L), List.getElem?_map, List.getElem?_eq_getElem (by omega : i < L.length)]
      have e1 : L.getD i 0 = L[i]'(by omega) := by rw [List.getD_eq_getElem?_getD, List.getElem?_eq_getElem (by omega : i < L.length)]; rfl
      rw [e1]
      simp only [Option.map_some, Option.getD_some]
      by_cases q : L[i]'(by omega) = L.getD e.2 0
      · rw [if_pos (by rw [q]), if_pos (by simp [q])]
      · rw [if_neg (by omega), if_neg (by simp only [beq_iff_eq]; exact q)]
def okQ (v m : Nat) : Bool := (bl (psN v) 0 m).length + 1 == v && acL ((bl (psN v) 0 m).map (prN v)) (List.range' 0 v)
theorem okM_L {v m : Nat} (hp : ∀ j : Nat, j < psN v → (prN v j).1 < v ∧ (prN v j).2 < v) : okM v (psN v) (prN v) m = okQ v m := by
  unfold okM okQ
  rw [acL_acG _ (List.range' 0 v) gId (fun e he => ?_) (by simp) (fun i hi => ?_)]
  · obtain ⟨j, j1, j2⟩ := List.mem_map.mp he
    have j3 := bl_mem _ _ _ _ j1
    rw [← j2]
    exact hp j (by omega)
  · rw [List.getD_eq_getElem?_getD, List.getElem?_range' hi]
    simp [gId]
def leE (e f : Ed) : Bool := Nat.blt e.1 f.1 || (e.1 == f.1 && Nat.ble e.2 f.2)
def insE (e : Ed) : List Ed → List Ed
  | [] => [e]
  | f :: l => bif leE e f then e :: f :: l else f :: insE e l
def srE : List Ed → List Ed
  | [] => []
  | e :: l => insE e (srE l)
theorem wL_ins (W : Int → Int) (e : Ed) : ∀ l : List Ed, wL W (insE e l) = wE W e + wL W l := by
  intro l
  induction l with
  | nil => rfl
  | cons f l ih =>
    unfold insE
    cases leE e f with
    | true => rfl
    | false => show wL W (f :: insE e l) = _; rw [wL, wL, ih]; omega
theorem wL_sr (W : Int → Int) : ∀ l : List Ed, wL W (srE l) = wL W l := by
  intro l
  induction l with
  | nil => rfl
  | cons e l ih => unfold srE; rw [wL_ins, ih, wL]
def ixE (v : Nat) (e : Ed) : Nat := e.1 * (2 * v - e.1 - 1) / 2 + (e.2 - e.1 - 1)
def kyE (v : Nat) : List Ed → Nat
  | [] => 0
  | e :: l => 2 ^ ixE v e + kyE v l
def mrg : Nat → List Nat → List Nat → List Nat
  | 0, l, m => l ++ m
  | _ + 1, [], m => m
  | _ + 1, x :: l, [] => x :: l
  | f + 1, x :: l, y :: m => bif Nat.ble x y then x :: mrg f l (y :: m) else y :: mrg f (x :: l) m
theorem mrg_perm : ∀ (f : Nat) (l m : List Nat), (mrg f l m).Perm (l ++ m) := by
  intro f
  induction f with
  | zero => intro l m; exact List.Perm.refl _
  | succ f ih =>
    intro l m
    cases l with
    | nil => exact List.Perm.refl _
    | cons x l =>
      cases m with
      | nil => show (x :: l).Perm (x :: l ++ []); rw [List.append_nil]
      | cons y m =>
        unfold mrg
        cases Nat.ble x y with
        | true => exact (ih l (y :: m)).cons x
        | false =>
          show (y :: mrg f (x :: l) m).Perm (x :: l ++ y :: m)
          refine ((ih (x :: l) m).cons y).trans ?_
          exact List.perm_middle.symm
def mps : List (List Nat) → List (List Nat)
  | [] => []
  | [a] => [a]
  | a :: b :: r => mrg 5000 a b :: mps r
theorem mps_perm : ∀ (n : Nat) (L : List (List Nat)), L.length ≤ n → (mps L).flatten.Perm L.flatten := by
  intro n
  induction n with
  | zero => intro L h; rw [show L = [] from List.length_eq_zero_iff.mp (by omega)]; exact List.Perm.refl _
  | succ n ih =>
    intro L h
    cases L with
    | nil => exact List.Perm.refl _
    | cons a L =>
      cases L with
      | nil => exact List.Perm.refl _
      | cons b r =>
        show (mrg 5000 a b ++ (mps r).flatten).Perm (a ++ (b ++ r.flatten))
        rw [← List.append_assoc]
        exact (mrg_perm 5000 a b).append (ih r (by simp only [List.length_cons] at h; omega))
def mst : Nat → List (List Nat) → List Nat
  | 0, L => L.flatten
  | k + 1, L => mst k (mps L)
theorem mst_perm : ∀ (k : Nat) (L : List (List Nat)), (mst k L).Perm L.flatten := by
  intro k
  induction k with
  | zero => intro L; exact List.Perm.refl _
  | succ k ih => intro L; exact (ih _).trans (mps_perm L.length L (Nat.le_refl _))
theorem flat_one (l : List Nat) : (l.map (fun x => [x])).flatten = l := by
  induction l with
  | nil => rfl
  | cons x l ih => rw [List.map_cons, List.flatten_cons, ih]; rfl
def ckA (v : Nat) : Bool := (TR 63 (2 ^ v - 1)).all (fun l => srE l == (bl (psN v) 0 (kyE v l)).map (prN v))
/-- sets of k pairs that close no ring, pair by pair -/
def dfs (v : Nat) : Nat → Nat → Nat → List Nat → List (List Nat)
  | 0, _, k, _ => if k = 0 then [[]] else []
  | n + 1, p, k, L => dfs v n (p + 1) k L ++ (match k with
    | 0 => []
    | k + 1 => bif L.getD (prN v p).1 0 == L.getD (prN v p).2 0 then [] else (dfs v n (p + 1) k (L.map (fun z => if z == L.getD (prN v p).2 0 then L.getD (prN v p).1 0 else z))).map (fun r => p :: r))
def okR (v k : Nat) (L r : List Nat) : Bool := r.length == k && acL (r.map (prN v)) L
theorem rng_2 : ∀ N : Nat, (List.range' 0 (2 * N)).Perm ((List.range' 0 N).map (fun x => 2 * x) ++ (List.range' 0 N).map (fun x => 2 * x + 1)) := by
  intro N
  induction N with
  | zero => exact List.Perm.refl _
  | succ N ih =>
    rw [show 2 * (N + 1) = 2 * N + 1 + 1 by omega, List.range'_1_concat, List.range'_1_concat, List.range'_1_concat (n := N), List.map_append, List.map_append]
    simp only [List.map_cons, List.map_nil, Nat.zero_add]
    refine ((ih.append_right [2 * N]).append_right [2 * N + 1]).trans ?_
    rw [← List.append_assoc]
    refine List.Perm.append_right [2 * N + 1] ?_
    rw [List.append_assoc, List.append_assoc]
    exact List.perm_append_comm.append_left _
theorem bl_0 (n p x : Nat) : bl (n + 1) p (2 * x) = bl n (p + 1) x := by
  show (if 2 * x % 2 = 0 then bl n (p + 1) (2 * x / 2) else p :: bl n (p + 1) (2 * x / 2)) = _
  rw [if_pos (by omega), show 2 * x / 2 = x by omega]
theorem bl_1 (n p x : Nat) : bl (n + 1) p (2 * x + 1) = p :: bl n (p + 1) x := by
  show (if (2 * x + 1) % 2 = 0 then bl n (p + 1) ((2 * x + 1) / 2) else p :: bl n (p + 1) ((2 * x + 1) / 2)) = _
  rw [if_neg (by omega), show (2 * x + 1) / 2 = x by omega]
theorem dfs_perm (v : Nat) : ∀ (n p k : Nat) (L : List Nat), (((List.range' 0 (2 ^ n)).map (bl n p)).filter (okR v k L)).Perm (dfs v n p k L) := by
  intro n
  induction n with
  | zero =>
    intro p k L
    show ([bl 0 p 0].filter (okR v k L)).Perm (if k = 0 then [[]] else [])
    by_cases c : k = 0
    · rw [if_pos c, c]; exact List.Perm.refl _
    · rw [if_neg c]
      have : okR v k L [] = false := by
        unfold okR
        have : (([] : List Nat).length == k) = false := by
          cases k with
          | zero => exact absurd rfl c
          | succ k => rfl
        rw [this]
        rfl
      show (List.filter (okR v k L) [[]]).Perm []
      rw [List.filter_cons, this]
      exact List.Perm.refl _
  | succ n ih =>
    intro p k L
    have h1 := ((rng_2 (2 ^ n)).map (bl (n + 1) p)).filter (okR v k L)
    rw [show 2 ^ (n + 1) = 2 * 2 ^ n by rw [Nat.pow_succ]; omega]
    refine h1.trans ?_
    rw [List.map_append, List.map_map, List.map_map, List.filter_append]
    have e0 : (bl (n + 1) p ∘ fun x => 2 * x) = bl n (p + 1) := funext fun x => bl_0 n p x
    have e1 : (bl (n + 1) p ∘ fun x => 2 * x + 1) = (fun r => p :: r) ∘ bl n (p + 1) := funext fun x => bl_1 n p x
    rw [e0, e1]
    refine List.Perm.append (ih (p + 1) k L) ?_
    rw [← List.map_map, List.filter_map]
    cases k with
    | zero =>
      have e2 : (okR v 0 L ∘ fun r => p :: r) = fun _ => false := funext fun r => rfl
      rw [e2, List.filter_eq_nil_iff.mpr (fun _ _ z => absurd z (by decide))]
      exact List.Perm.refl _
    | succ k =>
      show (List.map (fun r => p :: r) (List.filter (okR v (k + 1) L ∘ fun r => p :: r) (List.map (bl n (p + 1)) (List.range' 0 (2 ^ n))))).Perm (bif L.getD (prN v p).1 0 == L.getD (prN v p).2 0 then [] else (dfs v n (p + 1) k (L.map (fun z => if z == L.getD (prN v p).2 0 then L.getD (prN v p).1 0 else z))).map (fun r => p :: r))
      by_cases c : L.getD (prN v p).1 0 = L.getD (prN v p).2 0
      · have e2 : (okR v (k + 1) L ∘ fun r => p :: r) = fun _ => false := funext fun r => by
          show (_ && ((! (L.getD (prN v p).1 0 == L.getD (prN v p).2 0)) && _)) = false
          rw [c]
          simp
        rw [e2, List.filter_eq_nil_iff.mpr (fun _ _ z => absurd z (by decide)), c]
        simp
      · have c2 : (L.getD (prN v p).1 0 == L.getD (prN v p).2 0) = false := beq_eq_false_iff_ne.mpr c
        have e2 : (okR v (k + 1) L ∘ fun r => p :: r) = okR v k (L.map (fun z => if z == L.getD (prN v p).2 0 then L.getD (prN v p).1 0 else z)) := funext fun r => by
          show (((p :: r).length == k + 1) && ((! (L.getD (prN v p).1 0 == L.getD (prN v p).2 0)) && acL (r.map (prN v)) _)) = ((r.length == k) && _)
          rw [c2, List.length_cons]
          have : (r.length + 1 == k + 1) = (r.length == k) := by simp
          rw [this]
          rfl
        rw [e2, c2]
        exact (ih (p + 1) k _).map _
def kyI : List Nat → Nat
  | [] => 0
  | p :: l => 2 ^ p + kyI l
def dfL (v : Nat) : List (List Nat) := dfs v (psN v) 0 (v - 1) (List.range' 0 v)
def ckB (v : Nat) : Bool := mst 11 (((TR 63 (2 ^ v - 1)).map (kyE v)).map (fun x => [x])) == mst 11 (((dfL v).map kyI).map (fun x => [x]))
def ckC (v : Nat) : Bool := (dfL v).all (fun r => bl (psN v) 0 (kyI r) == r)
theorem ckA_1 : ckA 1 = true := by decide +kernel
theorem ckA_2 : ckA 2 = true := by decide +kernel
theorem ckA_3 : ckA 3 = true := by decide +kernel
theorem ckA_4 : ckA 4 = true := by decide +kernel
theorem ckA_5 : ckA 5 = true := by decide +kernel
theorem ckB_1 : ckB 1 = true := by decide +kernel
theorem ckB_2 : ckB 2 = true := by decide +kernel
theorem ckB_3 : ckB 3 = true := by decide +kernel
theorem ckB_4 : ckB 4 = true := by decide +kernel
theorem ckB_5 : ckB 5 = true := by decide +kernel
theorem ckC_1 : ckC 1 = true := by decide +kernel
theorem ckC_2 : ckC 2 = true := by decide +kernel
theorem ckC_3 : ckC 3 = true := by decide +kernel
theorem ckC_4 : ckC 4 = true := by decide +kernel
theorem ckC_5 : ckC 5 = true := by decide +kernel
