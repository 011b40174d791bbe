/-! classes paid in turn: what they are due, what is left for one, which is cut first, what a gift gets, the interest -/
def cs_ (D : Int → Int → Int) (n c : Int) : Int := sumI (fun g => D g c) 0 n.toNat
def lf_ (D : Int → Int → Int) (n av : Int) : Nat → Int
  | 0 => av
  | k + 1 => max 0 (lf_ D n av k - cs_ D n k)
def ct_ (D : Int → Int → Int) (n av : Int) : Nat → Int
  | 0 => -1
  | k + 1 => if ¬ cs_ D n k ≤ lf_ D n av k ∧ ct_ D n av k = -1 then (k : Int) else ct_ D n av k
def gt_ (D : Int → Int → Int) (n av g c : Int) : Int := pt_ (fun g => D g c) n (min (lf_ D n av c.toNat) (cs_ D n c)) g
def it_ (D : Int → Int → Int) (n av rt late g : Int) : Int := (sumI (fun c => gt_ D n av g c) 1 4 * rt * late).tdiv 1200
theorem cs_congr {D D' : Int → Int → Int} {n c : Int} (h : ∀ g : Int, 0 ≤ g → g < n → D g c = D' g c) : cs_ D n c = cs_ D' n c := sumI_congr _ _ (fun i i0 i1 => h i i0 (by omega))
theorem lf_congr {D D' : Int → Int → Int} {n av : Int} : ∀ (k : Nat), (∀ g c : Int, 0 ≤ g → g < n → 0 ≤ c → c < k → D g c = D' g c) → lf_ D n av k = lf_ D' n av k
  | 0, _ => rfl
  | k + 1, h => by
    rw [lf_, lf_, lf_congr k (fun g c a b c0 c1 => h g c a b c0 (by omega)), cs_congr (D' := D') (fun g a b => h g k a b (by omega) (by omega))]
theorem ct_congr {D D' : Int → Int → Int} {n av : Int} : ∀ (k : Nat), (∀ g c : Int, 0 ≤ g → g < n → 0 ≤ c → c < k → D g c = D' g c) → ct_ D n av k = ct_ D' n av k
  | 0, _ => rfl
  | k + 1, h => by
    rw [ct_, ct_, ct_congr k (fun g c a b c0 c1 => h g c a b c0 (by omega)), lf_congr k (fun g c a b c0 c1 => h g c a b c0 (by omega)), cs_congr (D' := D') (fun g a b => h g k a b (by omega) (by omega))]
theorem gt_congr {D D' : Int → Int → Int} {n av c : Int} (c0 : 0 ≤ c) (h : ∀ g k : Int, 0 ≤ g → g < n → 0 ≤ k → k ≤ c → D g k = D' g k) : ∀ g : Int, 0 ≤ g → g < n → gt_ D n av g c = gt_ D' n av g c := by
  intro g a b
  unfold gt_
  rw [lf_congr c.toNat (fun g k a b k0 k1 => h g k a b k0 (by omega)), cs_congr (D' := D') (fun g a b => h g c a b c0 (by omega))]
  exact pt_congr (fun g a b => h g c a b c0 (by omega)) g a b
theorem it_congr {D D' : Int → Int → Int} {n av rt late : Int} (h : ∀ g k : Int, 0 ≤ g → g < n → 0 ≤ k → k ≤ 4 → D g k = D' g k) : ∀ g : Int, 0 ≤ g → g < n → it_ D n av rt late g = it_ D' n av rt late g := by
  intro g a b
  unfold it_
  rw [sumI_congr (g := fun c => gt_ D' n av g c) 4 1 (fun c c0 c1 => gt_congr (by omega) (fun g k a b k0 k1 => h g k a b k0 (by omega)) g a b)]
theorem lf_bd {D : Int → Int → Int} {n av : Int} (a0 : 0 ≤ av) : ∀ (k : Nat), (∀ g c : Int, 0 ≤ g → g < n → 0 ≤ c → c < k → 0 ≤ D g c) → 0 ≤ lf_ D n av k ∧ lf_ D n av k ≤ av
  | 0, _ => ⟨a0, Int.le_refl _⟩
  | k + 1, h => by
    have ih := lf_bd a0 k (fun g c a b c0 c1 => h g c a b c0 (by omega))
    have hc : 0 ≤ cs_ D n k := sumI_nonneg _ _ (fun i i0 i1 => h i k i0 (by omega) (by omega) (by omega))
    rw [lf_]
    omega
theorem gt_bd {D : Int → Int → Int} {n av c : Int} (a0 : 0 ≤ av) (c0 : 0 ≤ c) (h : ∀ g k : Int, 0 ≤ g → g < n → 0 ≤ k → k ≤ c → 0 ≤ D g k) : ∀ g : Int, 0 ≤ g → g < n → 0 ≤ gt_ D n av g c ∧ gt_ D n av g c ≤ D g c ∧ gt_ D n av g c ≤ av := by
  intro g a b
  have hl := lf_bd (D := D) (n := n) a0 c.toNat (fun g k a b k0 k1 => h g k a b k0 (by omega))
  have hc : 0 ≤ cs_ D n c := sumI_nonneg _ _ (fun i i0 i1 => h i c i0 (by omega) (by omega) (by omega))
  have hp := pt_le (W := fun g => D g c) (n := n) (m := min (lf_ D n av c.toNat) (cs_ D n c)) (fun g a b => h g c a b c0 (by omega)) (by omega) g a b
  unfold gt_
  refine ⟨hp.1, hp.2.2 ?_, by omega⟩
  show _ ≤ cs_ D n c
  omega
theorem ci_ {s a b : Int} (s0 : 0 ≤ s) (s9 : s ≤ 40000) (a0 : 0 ≤ a) (a9 : a ≤ 99) (b0 : 0 ≤ b) (b9 : b ≤ 228) : 0 ≤ s * a * b ∧ s * a * b ≤ 1000000000 ∧ 0 ≤ (s * a * b).tdiv 1200 ∧ (s * a * b).tdiv 1200 ≤ 1000000 := by
  have h1 : 0 ≤ s * a := Int.mul_nonneg s0 a0
  have h2 : s * a ≤ 40000 * a := Int.mul_le_mul_of_nonneg_right s9 a0
  have h3 : 0 ≤ s * a * b := Int.mul_nonneg h1 b0
  have h4 : s * a * b ≤ 3960000 * b := Int.mul_le_mul_of_nonneg_right (by omega) b0
  rw [Int.tdiv_eq_ediv_of_nonneg h3]
  omega
theorem it_bd {D : Int → Int → Int} {n av rt late : Int} (a0 : 0 ≤ av) (r0 : 0 ≤ rt) (r9 : rt ≤ 99) (l0 : 0 ≤ late) (l9 : late ≤ 228) (h : ∀ g k : Int, 0 ≤ g → g < n → 0 ≤ k → k ≤ 4 → 0 ≤ D g k ∧ D g k ≤ 9999) :
    ∀ g : Int, 0 ≤ g → g < n → 0 ≤ sumI (fun c => gt_ D n av g c) 1 4 ∧ sumI (fun c => gt_ D n av g c) 1 4 ≤ 40000 ∧ 0 ≤ it_ D n av rt late g ∧ it_ D n av rt late g ≤ 1000000 := by
  intro g a b
  have hb : ∀ c : Int, 1 ≤ c → c < 1 + (4 : Nat) → 0 ≤ gt_ D n av g c ∧ gt_ D n av g c ≤ 9999 := fun c c0 c1 => by
    have h1 := gt_bd (D := D) (n := n) (c := c) a0 (by omega) (fun g k a b k0 k1 => (h g k a b k0 (by omega)).1) g a b
    have h2 := h g c a b (by omega) (by omega)
    omega
  have s0 := sumI_nonneg (f := fun c => gt_ D n av g c) 4 1 (fun c c0 c1 => (hb c c0 c1).1)
  have s1 := sumI_le (f := fun c => gt_ D n av g c) (b := 9999) 4 1 (fun c c0 c1 => (hb c c0 c1).2)
  have hc := ci_ s0 (by omega) r0 r9 l0 l9
  exact ⟨s0, by omega, hc.2.2.1, hc.2.2.2⟩
theorem lf_up {D : Int → Int → Int} {n av i : Int} (i0 : 0 ≤ i) : lf_ D n av (i + 1).toNat = max 0 (lf_ D n av i.toNat - cs_ D n i) := by
  rw [show (i + 1).toNat = i.toNat + 1 by omega, lf_, Int.toNat_of_nonneg i0]
theorem ct_up {D : Int → Int → Int} {n av i : Int} (i0 : 0 ≤ i) : ct_ D n av (i + 1).toNat = if ¬ cs_ D n i ≤ lf_ D n av i.toNat ∧ ct_ D n av i.toNat = -1 then i else ct_ D n av i.toNat := by
  rw [show (i + 1).toNat = i.toNat + 1 by omega, ct_, Int.toNat_of_nonneg i0]
/-- .. with the interest as class 5 -/
def d5_ (D : Int → Int → Int) (n av rt late g c : Int) : Int := if c = 5 then it_ D n av rt late g else D g c
theorem d5_lo {D : Int → Int → Int} {n av rt late g c : Int} (c5 : c ≤ 4) : d5_ D n av rt late g c = D g c := if_neg (by omega)
theorem d5_5 {D : Int → Int → Int} {n av rt late g : Int} : d5_ D n av rt late g 5 = it_ D n av rt late g := if_pos rfl
/-- the weights by which the rest is parted -/
def wr_ (kd lp am : Int → Int) (g : Int) : Int := if kd g = 3 ∧ lp g = 0 then am g else 0
theorem d5_lf (D : Int → Int → Int) (n av rt late : Int) {k : Nat} (hk : k ≤ 5) : lf_ D n av k = lf_ (d5_ D n av rt late) n av k :=
  lf_congr k (fun g c a b c0 c1 => by rw [d5_lo (D := D) (g := g) (c := c) (by omega)])
theorem d5_ct (D : Int → Int → Int) (n av rt late : Int) {k : Nat} (hk : k ≤ 5) : ct_ D n av k = ct_ (d5_ D n av rt late) n av k :=
  ct_congr k (fun g c a b c0 c1 => by rw [d5_lo (D := D) (g := g) (c := c) (by omega)])
theorem d5_gt (D : Int → Int → Int) (n av rt late : Int) {c : Int} (c0 : 0 ≤ c) (c4 : c ≤ 4) : ∀ g : Int, 0 ≤ g → g < n → gt_ D n av g c = gt_ (d5_ D n av rt late) n av g c :=
  gt_congr c0 (fun g k a b k0 k1 => by rw [d5_lo (D := D) (g := g) (c := k) (by omega)])
