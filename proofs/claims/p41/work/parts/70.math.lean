/-! THE PROPERTY'S SUMS over the picture: what is parted adds up to what was there -/
theorem sumI_nul {f : Int → Int} : ∀ (n : Nat) (a : Int), (∀ i : Int, a ≤ i → i < a + n → f i = 0) → sumI f a n = 0
  | 0, _, _ => rfl
  | n + 1, a, h => by
    rw [sumI, h a (by omega) (by omega), sumI_nul n (a + 1) (fun i i0 i1 => h i (by omega) (by omega))]
    rfl
/-- two sums change places -/
theorem sumI_swap {f : Int → Int → Int} : ∀ (n : Nat) (a : Int) (m : Nat) (b : Int), sumI (fun x => sumI (fun y => f x y) b m) a n = sumI (fun y => sumI (fun x => f x y) a n) b m
  | 0, a, m, b => by
    rw [sumI]
    exact (sumI_nul m b (fun i _ _ => rfl)).symm
  | n + 1, a, m, b => by
    rw [sumI, sumI_swap n (a + 1) m b, ← sumI_add]
    exact sumI_congr _ _ fun y _ _ => rfl
theorem sum_lr {n : Nat} : ∀ (k : Nat) (G R : Int → Int), sumI (lr_ n k G R) 0 (n + 1) = sumI G 0 (n + 1) + k
  | 0, G, R => by
    rw [lr_]
    omega
  | k + 1, G, R => by
    have ha := am_rng R n 0 1 (by omega) (by omega)
    have e : sumI (fun x => if x = am_ R 0 1 n then G x + 1 else G x) 0 (n + 1) = sumI G 0 (n + 1) + 1 := by
      have e1 : sumI (fun x => if x = am_ R 0 1 n then G x + 1 else G x) 0 (n + 1) = sumI (fun x => if x = am_ R 0 1 n then G (am_ R 0 1 n) + 1 else G x) 0 (n + 1) := sumI_congr _ _ fun i _ _ => by
        by_cases q : i = am_ R 0 1 n
        · rw [if_pos q, if_pos q, q]
        · rw [if_neg q, if_neg q]
      rw [e1, sumI_upd (n + 1) 0 ha.1 (by omega)]
      omega
    rw [lr_, sum_lr k, e]
    omega
theorem pt_sum {W : Int → Int} {n m : Int} (hw : ∀ g : Int, 0 ≤ g → g < n → 0 ≤ W g) (m0 : 0 ≤ m) (ha : ¬ sumI W 0 n.toNat = 0) : sumI (pt_ W n m) 0 n.toNat = m := by
  have n1 : 1 ≤ n := by
    apply Classical.byContradiction
    intro q
    apply ha
    rw [show n.toNat = 0 by omega]
    rfl
  have hp : 0 < sumI W 0 n.toNat := by
    have := sumI_nonneg (f := W) n.toNat 0 (fun i i0 i1 => hw i i0 (by omega))
    omega
  have e : ∀ g : Int, pt_ W n m g = lr_ (n - 1).toNat (m - sumI (fun g => (W g * m).tdiv (sumI W 0 n.toNat)) 0 n.toNat).toNat (fun g => (W g * m).tdiv (sumI W 0 n.toNat)) (fun g => (W g * m).tmod (sumI W 0 n.toNat)) g := fun g => if_neg ha
  rw [sumI_congr (g := lr_ (n - 1).toNat (m - sumI (fun g => (W g * m).tdiv (sumI W 0 n.toNat)) 0 n.toNat).toNat (fun g => (W g * m).tdiv (sumI W 0 n.toNat)) (fun g => (W g * m).tmod (sumI W 0 n.toNat))) _ _ (fun g _ _ => e g)]
  have en : n.toNat = (n - 1).toNat + 1 := by omega
  have hq : sumI (fun g => (W g * m).tdiv (sumI W 0 n.toNat)) 0 n.toNat ≤ m := by
    have e1 : sumI (fun g => W g * m) 0 n.toNat = sumI W 0 n.toNat * m := sumI_mul _ _
    generalize sumI W 0 n.toNat = a at *
    have h1 : sumI (fun g => (W g * m).tdiv a * a) 0 n.toNat ≤ sumI (fun g => W g * m) 0 n.toNat := by
      refine sumI_mono _ _ fun i i0 i1 => ?_
      show (W i * m).tdiv a * a ≤ W i * m
      have hr := rb_ (a := a) (hw i i0 (by omega)) m0 hp
      have h2 := Int.mul_tdiv_add_tmod (W i * m) a
      rw [Int.mul_comm ((W i * m).tdiv a) a]
      omega
    rw [sumI_mul, e1, Int.mul_comm a m] at h1
    exact Int.le_of_mul_le_mul_right h1 hp
  have e3 := sum_lr (n := (n - 1).toNat) (m - sumI (fun g => (W g * m).tdiv (sumI W 0 n.toNat)) 0 n.toNat).toNat (fun g => (W g * m).tdiv (sumI W 0 n.toNat)) (fun g => (W g * m).tmod (sumI W 0 n.toNat))
  rw [← en] at e3
  rw [e3]
  omega
theorem pt_all {W : Int → Int} {n m : Int} (hw : ∀ g : Int, 0 ≤ g → g < n → 0 ≤ W g) (m0 : 0 ≤ m) : sumI (pt_ W n m) 0 n.toNat = if sumI W 0 n.toNat = 0 then 0 else m := by
  by_cases ha : sumI W 0 n.toNat = 0
  · rw [if_pos ha]
    exact sumI_nul _ _ fun g _ _ => if_pos ha
  · rw [if_neg ha]
    exact pt_sum hw m0 ha
/-- what has no weight gets nothing -/
theorem pt_zero {W : Int → Int} {n m : Int} (hw : ∀ g : Int, 0 ≤ g → g < n → 0 ≤ W g) (m0 : 0 ≤ m) {g : Int} (g0 : 0 ≤ g) (g1 : g < n) (e : W g = 0) : pt_ W n m g = 0 := by
  by_cases ha : sumI W 0 n.toNat = 0
  · exact if_pos ha
  · have hp : 0 < sumI W 0 n.toNat := by
      have := sumI_nonneg (f := W) n.toNat 0 (fun i i0 i1 => hw i i0 (by omega))
      omega
    have hl := lr_le (n := (n - 1).toNat) _ (fun g => (W g * m).tdiv (sumI W 0 n.toNat)) (fun g => (W g * m).tmod (sumI W 0 n.toNat)) (pt_over (by omega) hw m0 hp) g g0 (by omega)
    have h1 : (W g * m).tdiv (sumI W 0 n.toNat) = 0 := by rw [e, Int.zero_mul, Int.zero_tdiv]
    have h2 : (W g * m).tmod (sumI W 0 n.toNat) = 0 := by rw [e, Int.zero_mul, Int.zero_tmod]
    simp only [h1, h2] at hl
    unfold pt_
    rw [if_neg ha]
    rw [if_neg (by omega)] at hl
    omega
/-! classes -/
theorem gt_sum {D : Int → Int → Int} {n av c : Int} (a0 : 0 ≤ av) (c0 : 0 ≤ c) (h : ∀ g k : Int, 0 ≤ g → g < n → 0 ≤ k → k ≤ c → 0 ≤ D g k) : sumI (fun g => gt_ D n av g c) 0 n.toNat = min (lf_ D n av c.toNat) (cs_ D n c) := by
  have hl := lf_bd (D := D) (n := n) a0 c.toNat (fun g k a b k0 k1 => h g k a b k0 (by omega))
  have hc : 0 ≤ cs_ D n c := sumI_nonneg _ _ (fun i i0 i1 => h i c i0 (by omega) c0 (by omega))
  have e := pt_all (W := fun g => D g c) (n := n) (m := min (lf_ D n av c.toNat) (cs_ D n c)) (fun g a b => h g c a b c0 (by omega)) (by omega)
  have e2 : sumI (fun g => gt_ D n av g c) 0 n.toNat = sumI (pt_ (fun g => D g c) n (min (lf_ D n av c.toNat) (cs_ D n c))) 0 n.toNat := sumI_congr _ _ fun g _ _ => rfl
  rw [e2, e]
  show (if cs_ D n c = 0 then 0 else min (lf_ D n av c.toNat) (cs_ D n c)) = _
  split <;> omega
theorem gt_tot {D : Int → Int → Int} {n av : Int} (a0 : 0 ≤ av) : ∀ (k : Nat), (∀ g c : Int, 0 ≤ g → g < n → 0 ≤ c → c < k → 0 ≤ D g c) → sumI (fun c => min (lf_ D n av c.toNat) (cs_ D n c)) 0 k = av - lf_ D n av k
  | 0, _ => by rw [sumI, lf_]; omega
  | k + 1, h => by
    have ih := gt_tot a0 k (fun g c a b c0 c1 => h g c a b c0 (by omega))
    have hl := lf_bd (D := D) (n := n) a0 k (fun g k a b k0 k1 => h g k a b k0 (by omega))
    have hc : 0 ≤ cs_ D n k := sumI_nonneg _ _ (fun i i0 i1 => h i k i0 (by omega) (by omega) (by omega))
    rw [sumI_snoc, ih, lf_]
    have e : (0 : Int) + (k : Int) = k := by omega
    simp only [e, Int.toNat_natCast]
    omega
theorem lf_dn {D : Int → Int → Int} {n av : Int} (a0 : 0 ≤ av) : ∀ (k : Nat), (∀ g c : Int, 0 ≤ g → g < n → 0 ≤ c → c < k → 0 ≤ D g c) → lf_ D n av k = max 0 (av - sumI (fun c => cs_ D n c) 0 k)
  | 0, _ => by rw [sumI, lf_]; omega
  | k + 1, h => by
    have ih := lf_dn a0 k (fun g c a b c0 c1 => h g c a b c0 (by omega))
    have hc : 0 ≤ cs_ D n k := sumI_nonneg _ _ (fun i i0 i1 => h i k i0 (by omega) (by omega) (by omega))
    rw [lf_, ih, sumI_snoc]
    have e : (0 : Int) + (k : Int) = k := by omega
    rw [e]
    omega
/-- where classes are cut: nowhere, or first at j, behind which nothing is left -/
theorem ct_is {D : Int → Int → Int} {n av : Int} (a0 : 0 ≤ av) : ∀ (k : Nat), (∀ g c : Int, 0 ≤ g → g < n → 0 ≤ c → c < k → 0 ≤ D g c) →
    (ct_ D n av k = -1 ∧ ∀ j : Nat, j < k → cs_ D n j ≤ lf_ D n av j) ∨ (∃ j : Nat, j < k ∧ ct_ D n av k = j ∧ ¬ cs_ D n j ≤ lf_ D n av j ∧ (∀ i : Nat, i < j → cs_ D n i ≤ lf_ D n av i) ∧ ∀ i : Nat, j < i → i ≤ k → lf_ D n av i = 0)
  | 0, _ => Or.inl ⟨rfl, fun j hj => absurd hj (Nat.not_lt_zero j)⟩
  | k + 1, h => by
    have hc : 0 ≤ cs_ D n k := sumI_nonneg _ _ (fun i i0 i1 => h i k i0 (by omega) (by omega) (by omega))
    rcases ct_is a0 k (fun g c a b c0 c1 => h g c a b c0 (by omega)) with ⟨e, hj⟩ | ⟨j, j1, e, hn, hi, h0⟩
    · by_cases c : cs_ D n k ≤ lf_ D n av k
      · refine Or.inl ⟨?_, fun j q => ?_⟩
        · rw [ct_, if_neg (fun z => z.1 c)]
          exact e
        · by_cases q2 : j = k
          · rw [q2]; exact c
          · exact hj j (by omega)
      · refine Or.inr ⟨k, by omega, ?_, c, hj, fun i i0 i1 => ?_⟩
        · rw [ct_, if_pos ⟨c, e⟩]
        · rw [show i = k + 1 by omega, lf_]
          omega
    · refine Or.inr ⟨j, by omega, ?_, hn, hi, fun i i0 i1 => ?_⟩
      · rw [ct_, if_neg (fun z => by have := z.2; omega)]
        exact e
      · by_cases q : i ≤ k
        · exact h0 i i0 q
        · rw [show i = k + 1 by omega, lf_, h0 k (by omega) (Nat.le_refl _)]
          omega
/-! the picture's classes -/
theorem zd5_nn {z : PH} (I : ZI z) : ∀ g c : Int, 0 ≤ g → g < z 0 2 → 0 ≤ zd5 z g c := fun g c a b => (zd5_bd I a b).1
theorem zcl0 {z : PH} {c : Int} (c5 : c ≤ 5) : zclassed z c 0 = cs_ (zd5 z) (z 0 2) c := by
  unfold zclassed cs_
  rw [if_pos rfl]
  exact sumI_congr _ _ fun g _ _ => if_neg (by omega)
theorem zcl1 {z : PH} (I : ZI z) {c : Int} (c0 : 0 ≤ c) (c5 : c ≤ 5) : zclassed z c 1 = min (lf_ (zd5 z) (z 0 2) (zav z) c.toNat) (cs_ (zd5 z) (z 0 2) c) := by
  unfold zclassed
  rw [if_neg (by omega), if_pos rfl, ← gt_sum (zav_bd I).1 c0 (fun g k a b _ _ => zd5_nn I g k a b)]
  exact sumI_congr _ _ fun g _ _ => if_neg (by omega)
/-- what all classes get -/
theorem zcl_sum {z : PH} (I : ZI z) : sumI (fun c => zclassed z c 1) 0 6 = zav z - zrs z := by
  rw [sumI_congr (g := fun c => min (lf_ (zd5 z) (z 0 2) (zav z) c.toNat) (cs_ (zd5 z) (z 0 2) c)) 6 0 (fun c c0 c1 => zcl1 I c0 (by omega))]
  exact gt_tot (zav_bd I).1 6 (fun g c a b _ _ => zd5_nn I g c a b)
/-- .. and where it is cut -/
theorem zcl_cut {z : PH} (I : ZI z) : (zct z = -1 ∨ (0 ≤ zct z ∧ zct z ≤ 5 ∧ zrs z = 0)) ∧ ∀ c : Int, 0 ≤ c → c ≤ 5 → zclassed z c 1 ≤ zclassed z c 0 ∧ (zct z < 0 → zclassed z c 1 = zclassed z c 0) ∧ (0 ≤ zct z → c < zct z → zclassed z c 1 = zclassed z c 0) ∧ (c = zct z → zclassed z c 1 < zclassed z c 0) ∧ (0 ≤ zct z → zct z < c → zclassed z c 1 = 0) := by
  have hk := ct_is (D := zd5 z) (n := z 0 2) (zav_bd I).1 6 (fun g c a b _ _ => zd5_nn I g c a b)
  have hk : (zct z = -1 ∧ ∀ j : Nat, j < 6 → cs_ (zd5 z) (z 0 2) j ≤ lf_ (zd5 z) (z 0 2) (zav z) j) ∨ (∃ j : Nat, j < 6 ∧ zct z = j ∧ ¬ cs_ (zd5 z) (z 0 2) j ≤ lf_ (zd5 z) (z 0 2) (zav z) j ∧ (∀ i : Nat, i < j → cs_ (zd5 z) (z 0 2) i ≤ lf_ (zd5 z) (z 0 2) (zav z) i) ∧ ∀ i : Nat, j < i → i ≤ 6 → lf_ (zd5 z) (z 0 2) (zav z) i = 0) := hk
  refine ⟨?_, fun c c0 c5 => ?_⟩
  · rcases hk with ⟨e, -⟩ | ⟨j, j1, e, -, -, h0⟩
    · exact Or.inl e
    · exact Or.inr ⟨by omega, by omega, h0 6 j1 (Nat.le_refl _)⟩
  · rw [zcl0 c5, zcl1 I c0 c5]
    have ec : ((c.toNat : Nat) : Int) = c := Int.toNat_of_nonneg c0
    have hl := lf_bd (D := zd5 z) (n := z 0 2) (zav_bd I).1 c.toNat (fun g k a b _ _ => zd5_nn I g k a b)
    have hc : 0 ≤ cs_ (zd5 z) (z 0 2) c := sumI_nonneg _ _ (fun i i0 i1 => zd5_nn I i c i0 (by omega))
    rcases hk with ⟨e, hj⟩ | ⟨j, j1, e, hn, hi, h0⟩
    · have h1 := hj c.toNat (by omega)
      rw [ec] at h1
      omega
    · by_cases q : c.toNat < j
      · have h1 := hi c.toNat q
        rw [ec] at h1
        omega
      · by_cases q2 : c.toNat = j
        · have h1 := hn
          rw [← q2, ec] at h1
          omega
        · have h1 := h0 c.toNat (by omega) (by omega)
          omega
/-! the least debt -/
/-- the same house with another debt -/
def DB_ (z z' : PH) (b : Int) : Prop := z' 1 57 = b ∧ (∀ k : Int, ¬ k = 57 → z' 1 k = z 1 k) ∧ ∀ x : Int, 0 ≤ x → x < 10 → ¬ x = 1 → z' x = z x
theorem db_br {z z' : PH} {b : Int} (H : DB_ z z' b) {t : Int} (t0 : 0 ≤ t) (t1 : t < 8) : zbr z' t = zbr z t := by
  unfold zbr
  rw [H.2.1 (8 + t) (by omega), H.2.1 t (by omega), H.2.1 (24 + t) (by omega)]
theorem db_es {z z' : PH} {b : Int} (I : ZI z) (H : DB_ z z' b) : zes z' = zes z := by
  have hT := I.2.1
  unfold zes
  rw [H.2.1 56 (by omega), H.2.2 0 (by omega) (by omega) (by omega)]
  exact congrArg _ (sumI_congr _ _ fun t t0 t1 => db_br H t0 (by omega))
theorem fzk_cg {kd lp lp' th am br br' : Int → Int} {t : Int} (hb : br t = br' t) : ∀ k : Nat, (∀ g : Int, 0 ≤ g → g < k → lp g = lp' g) → fzk kd lp th am br k t = fzk kd lp' th am br' k t
  | 0, _ => hb
  | k + 1, h => by
    rw [fzk, fzk, h k (by omega) (by omega), fzk_cg hb k (fun g g0 g1 => h g g0 (by omega))]
theorem db_lp {z z' : PH} {b : Int} (I : ZI z) (H : DB_ z z' b) {g : Int} (g0 : 0 ≤ g) (g1 : g < z 0 2) : zlp z' g = zlp z g := by
  have hg := (I.2.2.2.2.2 g g0 g1).2.1
  have hP := I.2.2.1
  have hN := I.2.2.2.1
  have e0 : z' 0 = z 0 := H.2.2 0 (by omega) (by omega) (by omega)
  have e2 : z' 2 = z 2 := H.2.2 2 (by omega) (by omega) (by omega)
  have e3 : z' 3 = z 3 := H.2.2 3 (by omega) (by omega) (by omega)
  have e6 : z' 6 = z 6 := H.2.2 6 (by omega) (by omega) (by omega)
  have ed : ∀ p : Int, 0 ≤ p → p < z 0 1 → zdd z' p = zdd z p := fun p p0 p1 => H.2.1 (32 + p) (by omega)
  have el : zlv z' (z 6 g) = zlv z (z 6 g) := by
    unfold zlv
    rw [e0, e2]
    exact lvk_congr rfl (fun q q0 q1 => ⟨rfl, ed q q0 q1⟩) 12 _ hg.1 hg.2
  unfold zlp
  rw [e6, H.2.1 (44 + g) (by omega), ed _ hg.1 hg.2, zkn_to e2 e3, el]
theorem db_du {z z' : PH} {b : Int} (I : ZI z) (H : DB_ z z' b) {g c : Int} (g0 : 0 ≤ g) (g1 : g < z 0 2) : zdu z' g c = zdu z g c := by
  have hg := I.2.2.2.2.2 g g0 g1
  have hT := I.2.1
  have e5 : z' 5 = z 5 := H.2.2 5 (by omega) (by omega) (by omega)
  have e7 : z' 7 = z 7 := H.2.2 7 (by omega) (by omega) (by omega)
  have e8 : z' 8 = z 8 := H.2.2 8 (by omega) (by omega) (by omega)
  have e9 : z' 9 = z 9 := H.2.2 9 (by omega) (by omega) (by omega)
  unfold zdu
  rw [db_lp I H g0 g1, e5, e7, e8, e9]
  by_cases c0 : ¬ zlp z g = 0
  · rw [if_pos c0, if_pos c0]
  · rw [if_neg c0, if_neg c0]
    by_cases c1 : z 5 g = 0
    · have ht := hg.2.2.1 (Or.inl c1)
      rw [if_pos c1, if_pos c1, db_br H ht.1 (by omega), H.2.1 60 (by omega), H.2.1 (z 7 g) (by omega)]
    · rw [if_neg c1, if_neg c1]
      by_cases c2 : z 5 g = 1
      · rw [if_pos c2, if_pos c2]
      · rw [if_neg c2, if_neg c2]
        by_cases c3 : z 5 g = 2
        · have ht := hg.2.2.1 (Or.inr c3)
          have ef : zfl z' g.toNat (z 7 g) = zfl z g.toNat (z 7 g) := by
            unfold zfl
            rw [e5, e7, e8]
            exact fzk_cg (db_br H ht.1 (by omega)) _ (fun i i0 i1 => db_lp I H i0 (by omega))
          rw [if_pos c3, if_pos c3, ef]
        · rw [if_neg c3, if_neg c3]
theorem zdut_cs {z : PH} {c : Int} (c0 : 0 ≤ c) (c4 : c ≤ 4) : zdut z c = sumI (fun k => cs_ (zd5 z) (z 0 2) k) 0 c.toNat + cs_ (zd5 z) (z 0 2) c := by
  unfold zdut
  rw [show (c + 1).toNat = c.toNat + 1 by omega, sumI_snoc, show (0 : Int) + (c.toNat : Int) = c by omega]
  have e : ∀ k : Int, k ≤ 5 → sumI (fun g => zde z g k) 0 (z 0 2).toNat = cs_ (zd5 z) (z 0 2) k := fun k hk => sumI_congr _ _ fun g _ _ => if_neg (by omega)
  rw [e c (by omega), sumI_congr (g := fun k => cs_ (zd5 z) (z 0 2) k) _ _ (fun k k0 k1 => e k (by omega))]
theorem db_cs {z z' : PH} {b : Int} (I : ZI z) (H : DB_ z z' b) {c : Int} (c4 : c ≤ 4) : cs_ (zd5 z') (z' 0 2) c = cs_ (zd5 z) (z 0 2) c := by
  unfold cs_
  have e0 : z' 0 = z 0 := H.2.2 0 (by omega) (by omega) (by omega)
  rw [e0]
  refine sumI_congr _ _ fun g g0 g1 => ?_
  unfold zd5
  rw [d5_lo (by omega), d5_lo (by omega)]
  exact db_du I H g0 (by omega)
/-- at the least debt the class is cut, at one less it isn't -/
theorem zleast_is {z : PH} (I : ZI z) {c : Int} (c0 : 0 ≤ c) (c4 : c ≤ 4) : (zleast z c < 0 ↔ zclassed z c 0 = 0) ∧ (0 ≤ zleast z c → ∀ z' : PH, ZI z' → DB_ z z' (zleast z c) → zclassed z' c 1 < zclassed z' c 0) ∧ (0 < zleast z c → ∀ z' : PH, ZI z' → DB_ z z' (zleast z c - 1) → zclassed z' c 1 = zclassed z' c 0) := by
  have ec0 : zclassed z c 0 = cs_ (zd5 z) (z 0 2) c := zcl0 (by omega)
  have es0 : sumI (fun g => zde z g c) 0 (z 0 2).toNat = cs_ (zd5 z) (z 0 2) c := by rw [← ec0]; unfold zclassed; rw [if_pos rfl]
  have hc : 0 ≤ cs_ (zd5 z) (z 0 2) c := sumI_nonneg _ _ (fun i i0 i1 => zd5_nn I i c i0 (by omega))
  have hs : 0 ≤ sumI (fun k => cs_ (zd5 z) (z 0 2) k) 0 c.toNat := sumI_nonneg _ _ (fun k k0 k1 => sumI_nonneg _ _ (fun i i0 i1 => zd5_nn I i k i0 (by omega)))
  have hz := zes_bd I
  have el : zleast z c = if cs_ (zd5 z) (z 0 2) c = 0 then -1 else max 0 (zes z - (sumI (fun k => cs_ (zd5 z) (z 0 2) k) 0 c.toNat + cs_ (zd5 z) (z 0 2) c) + 1) := by
    unfold zleast
    rw [es0, zdut_cs c0 c4]
  have key : ∀ (z' : PH) (b : Int), ZI z' → DB_ z z' b → zclassed z' c 0 = cs_ (zd5 z) (z 0 2) c ∧ zclassed z' c 1 = min (max 0 (max 0 (zes z - b) - sumI (fun k => cs_ (zd5 z) (z 0 2) k) 0 c.toNat)) (cs_ (zd5 z) (z 0 2) c) := by
    intro z' b I' H
    have ea : zav z' = max 0 (zes z - b) := by unfold zav; rw [db_es I H, H.1]
    rw [zcl0 (by omega), zcl1 I' c0 (by omega), db_cs I H c4, lf_dn (zav_bd I').1 c.toNat (fun g c a b _ _ => zd5_nn I' g c a b), ea, sumI_congr (g := fun k => cs_ (zd5 z) (z 0 2) k) _ _ (fun k k0 k1 => db_cs I H (by omega))]
    exact ⟨rfl, rfl⟩
  rw [ec0]
  generalize cs_ (zd5 z) (z 0 2) c = C at *
  generalize sumI (fun k => cs_ (zd5 z) (z 0 2) k) 0 c.toNat = S at *
  refine ⟨?_, fun h0 z' I' H => ?_, fun h0 z' I' H => ?_⟩
  · rw [el]
    split
    · omega
    · omega
  · have k := key z' _ I' H
    rw [k.1, k.2]
    rw [el] at h0 ⊢
    split at h0
    · omega
    · rename_i q
      rw [if_neg q]
      omega
  · have k := key z' _ I' H
    rw [k.1, k.2]
    rw [el] at h0 ⊢
    split at h0
    · omega
    · rename_i q
      rw [if_neg q]
      omega
