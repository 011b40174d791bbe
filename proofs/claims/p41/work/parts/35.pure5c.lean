/-! the greatest rest: the first of the greatest, from b on and i .. -/
def am_ (R : Int → Int) (b i : Int) : Nat → Int
  | 0 => b
  | m + 1 => am_ R (if R b < R i then i else b) (i + 1) m
theorem am_rng (R : Int → Int) : ∀ (m : Nat) (b i : Int), 0 ≤ b → b < i → 0 ≤ am_ R b i m ∧ am_ R b i m < i + m
  | 0, b, i, h0, h1 => ⟨h0, by simpa [am_] using h1⟩
  | m + 1, b, i, h0, h1 => by
    rw [am_]
    split
    · have := am_rng R m i (i + 1) (by omega) (by omega)
      exact ⟨this.1, by omega⟩
    · have := am_rng R m b (i + 1) h0 (by omega)
      exact ⟨this.1, by omega⟩
theorem am_congr {R R' : Int → Int} : ∀ (m : Nat) (b i : Int), 0 ≤ b → b < i → (∀ g : Int, 0 ≤ g → g < i + m → R g = R' g) → am_ R b i m = am_ R' b i m
  | 0, _, _, _, _, _ => rfl
  | m + 1, b, i, h0, h1, h => by
    rw [am_, am_, h b h0 (by omega), h i (by omega) (by omega)]
    split
    · exact am_congr m i (i + 1) (by omega) (by omega) (fun g g0 g1 => h g g0 (by omega))
    · exact am_congr m b (i + 1) h0 (by omega) (fun g g0 g1 => h g g0 (by omega))
/-- one more, k times, to the greatest rest, which is spent then -/
def lr_ (n : Nat) : Nat → (Int → Int) → (Int → Int) → Int → Int
  | 0, G, _ => G
  | k + 1, G, R => lr_ n k (fun x => if x = am_ R 0 1 n then G x + 1 else G x) (fun x => if x = am_ R 0 1 n then 0 else R x)
theorem lr_congr {n : Nat} : ∀ (k : Nat) (G G' R R' : Int → Int), (∀ g : Int, 0 ≤ g → g < 1 + n → G g = G' g) → (∀ g : Int, 0 ≤ g → g < 1 + n → R g = R' g) → ∀ g : Int, 0 ≤ g → g < 1 + n → lr_ n k G R g = lr_ n k G' R' g
  | 0, _, _, _, _, h, _, g, g0, g1 => h g g0 g1
  | k + 1, G, G', R, R', h, hr, g, g0, g1 => by
    rw [lr_, lr_]
    have e := am_congr n 0 1 (by omega) (by omega) hr
    refine lr_congr k _ _ _ _ (fun x x0 x1 => ?_) (fun x x0 x1 => ?_) g g0 g1
    · show (if x = am_ R 0 1 n then G x + 1 else G x) = if x = am_ R' 0 1 n then G' x + 1 else G' x
      rw [e, h x x0 x1]
    · show (if x = am_ R 0 1 n then 0 else R x) = if x = am_ R' 0 1 n then 0 else R' x
      rw [e, hr x x0 x1]
theorem sumI_ge {f : Int → Int} : ∀ (n : Nat) (a : Int), (∀ i : Int, a ≤ i → i < a + n → 0 ≤ f i) → ∀ j : Int, a ≤ j → j < a + n → f j ≤ sumI f a n
  | 0, a, _, j, j0, j1 => by omega
  | n + 1, a, h, j, j0, j1 => by
    rw [sumI]
    have h1 := h a (by omega) (by omega)
    have h2 := sumI_nonneg n (a + 1) (fun i i0 i1 => h i (by omega) (by omega))
    by_cases e : j = a
    · subst e; omega
    · have := sumI_ge n (a + 1) (fun i i0 i1 => h i (by omega) (by omega)) j (by omega) (by omega)
      omega
theorem gb_ {x m a : Int} (x0 : 0 ≤ x) (xa : x ≤ a) (m0 : 0 ≤ m) (a0 : 0 < a) : 0 ≤ (x * m).tdiv a ∧ (x * m).tdiv a ≤ m := by
  have h1 : 0 ≤ x * m := Int.mul_nonneg x0 m0
  rw [Int.tdiv_eq_ediv_of_nonneg h1]
  refine ⟨Int.ediv_nonneg h1 (by omega), ?_⟩
  have h2 : x * m ≤ a * m := Int.mul_le_mul_of_nonneg_right xa m0
  have h3 : x * m / a ≤ a * m / a := Int.ediv_le_ediv a0 h2
  rwa [Int.mul_ediv_cancel_left _ (by omega)] at h3
theorem rb_ {x m a : Int} (x0 : 0 ≤ x) (m0 : 0 ≤ m) (a0 : 0 < a) : 0 ≤ (x * m).tmod a ∧ (x * m).tmod a < a := by
  have h1 : 0 ≤ x * m := Int.mul_nonneg x0 m0
  rw [Int.tmod_eq_emod_of_nonneg h1]
  exact ⟨Int.emod_nonneg _ (by omega), Int.emod_lt_of_pos _ a0⟩
theorem xm_ {x m : Int} (x0 : 0 ≤ x) (x9 : x ≤ 1000000) (m0 : 0 ≤ m) (m9 : m ≤ 1000000) : 0 ≤ x * m ∧ x * m ≤ 1000000000000 := by
  refine ⟨Int.mul_nonneg x0 m0, ?_⟩
  have h2 : x * m ≤ 1000000 * m := Int.mul_le_mul_of_nonneg_right x9 m0
  omega
