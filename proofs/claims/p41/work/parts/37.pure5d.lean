/-! what is left over goes to gifts with a rest, at most one each -/
theorem sumI_upd {f : Int → Int} {v b : Int} : ∀ (n : Nat) (a : Int), a ≤ b → b < a + n → sumI (fun x => if x = b then v else f x) a n = sumI f a n - f b + v
  | 0, a, h0, h1 => by omega
  | n + 1, a, h0, h1 => by
    rw [sumI, sumI]
    by_cases e : a = b
    · subst e
      rw [if_pos rfl, sumI_congr (g := f) n (a + 1) (fun i i0 i1 => if_neg (by omega))]
      omega
    · rw [if_neg e, sumI_upd n (a + 1) (by omega) (by omega)]
      omega
theorem am_max {R : Int → Int} : ∀ (m : Nat) (b i : Int), R b ≤ R (am_ R b i m) ∧ ∀ g : Int, i ≤ g → g < i + m → R g ≤ R (am_ R b i m)
  | 0, b, i => ⟨Int.le_refl _, fun g g0 g1 => by omega⟩
  | m + 1, b, i => by
    rw [am_]
    split
    · have h := am_max (R := R) m i (i + 1)
      refine ⟨by omega, fun g g0 g1 => ?_⟩
      by_cases e : g = i
      · rw [e]; exact h.1
      · exact h.2 g (by omega) (by omega)
    · have h := am_max (R := R) m b (i + 1)
      refine ⟨h.1, fun g g0 g1 => ?_⟩
      by_cases e : g = i
      · rw [e]; omega
      · exact h.2 g (by omega) (by omega)
theorem am_all (R : Int → Int) (n : Nat) : ∀ g : Int, 0 ≤ g → g < 1 + n → R g ≤ R (am_ R 0 1 n) := by
  intro g g0 g1
  have h := am_max (R := R) n 0 1
  by_cases e : g = 0
  · rw [e]; exact h.1
  · exact h.2 g (by omega) (by omega)
/-- how many have a rest -/
def cn_ (R : Int → Int) (n : Nat) : Int := sumI (fun g => if 0 < R g then 1 else 0) 0 (n + 1)
theorem cn_pos {R : Int → Int} {n : Nat} (h : 1 ≤ cn_ R n) : 0 < R (am_ R 0 1 n) := by
  apply Classical.byContradiction
  intro q
  have h1 : cn_ R n ≤ 0 := by
    have := sumI_le (f := fun g => if 0 < R g then (1 : Int) else 0) (b := 0) (n + 1) 0 (fun i i0 i1 => by
      have := am_all R n i i0 (by omega)
      rw [if_neg (by omega)]
      exact Int.le_refl _)
    simpa [cn_] using this
  omega
theorem lr_le {n : Nat} : ∀ (k : Nat) (G R : Int → Int), (k : Int) ≤ cn_ R n → ∀ g : Int, 0 ≤ g → g < 1 + n → G g ≤ lr_ n k G R g ∧ lr_ n k G R g ≤ G g + if 0 < R g then 1 else 0
  | 0, G, R, _, g, _, _ => by
    rw [lr_]
    split <;> omega
  | k + 1, G, R, h, g, g0, g1 => by
    have hp := cn_pos (R := R) (n := n) (by omega)
    have ha := am_rng R n 0 1 (by omega) (by omega)
    have hc : cn_ (fun x => if x = am_ R 0 1 n then 0 else R x) n = cn_ R n - 1 := by
      unfold cn_
      have e := sumI_upd (f := fun g => if 0 < R g then (1 : Int) else 0) (v := 0) (b := am_ R 0 1 n) (n + 1) 0 ha.1 (by omega)
      rw [if_pos hp] at e
      have e2 : sumI (fun g => if 0 < (if g = am_ R 0 1 n then 0 else R g) then (1 : Int) else 0) 0 (n + 1) = sumI (fun x => if x = am_ R 0 1 n then (0 : Int) else (fun g => if 0 < R g then (1 : Int) else 0) x) 0 (n + 1) := by
        refine sumI_congr _ _ fun i _ _ => ?_
        by_cases q : i = am_ R 0 1 n
        · rw [if_pos q, if_pos q, if_neg (by omega)]
        · rw [if_neg q, if_neg q]
      rw [e2, e]
      omega
    rw [lr_]
    have ih := lr_le k (fun x => if x = am_ R 0 1 n then G x + 1 else G x) (fun x => if x = am_ R 0 1 n then 0 else R x) (by rw [hc]; omega) g g0 g1
    by_cases q : g = am_ R 0 1 n
    · subst q
      simp only [if_true] at ih
      rw [if_pos hp]
      have ih2 := ih.2
      rw [if_neg (by omega)] at ih2
      exact ⟨by omega, by omega⟩
    · simp only [if_neg q] at ih
      exact ih
/-- an amount parted by weights -/
def pt_ (W : Int → Int) (n m g : Int) : Int := if sumI W 0 n.toNat = 0 then 0 else
  lr_ (n - 1).toNat (m - sumI (fun g => (W g * m).tdiv (sumI W 0 n.toNat)) 0 n.toNat).toNat (fun g => (W g * m).tdiv (sumI W 0 n.toNat)) (fun g => (W g * m).tmod (sumI W 0 n.toNat)) g
theorem pt_congr {W W' : Int → Int} {n m : Int} (h : ∀ g : Int, 0 ≤ g → g < n → W g = W' g) : ∀ g : Int, 0 ≤ g → g < n → pt_ W n m g = pt_ W' n m g := by
  intro g g0 g1
  have e : sumI W 0 n.toNat = sumI W' 0 n.toNat := sumI_congr _ _ (fun i i0 i1 => h i i0 (by omega))
  have e2 : sumI (fun g => (W g * m).tdiv (sumI W' 0 n.toNat)) 0 n.toNat = sumI (fun g => (W' g * m).tdiv (sumI W' 0 n.toNat)) 0 n.toNat := sumI_congr _ _ (fun i i0 i1 => by rw [h i i0 (by omega)])
  unfold pt_
  rw [e, e2]
  split
  · rfl
  · exact lr_congr _ _ _ _ _ (fun x x0 x1 => by rw [h x x0 (by omega)]) (fun x x0 x1 => by rw [h x x0 (by omega)]) g g0 (by omega)
theorem sumI_mul {f : Int → Int} {c : Int} : ∀ (n : Nat) (a : Int), sumI (fun x => f x * c) a n = sumI f a n * c
  | 0, _ => by simp [sumI]
  | n + 1, a => by rw [sumI, sumI, sumI_mul n (a + 1), Int.add_mul]
theorem sumI_add {f g : Int → Int} : ∀ (n : Nat) (a : Int), sumI (fun x => f x + g x) a n = sumI f a n + sumI g a n
  | 0, _ => by simp [sumI]
  | n + 1, a => by rw [sumI, sumI, sumI, sumI_add n (a + 1)]; omega
theorem sumI_mono {f g : Int → Int} : ∀ (n : Nat) (a : Int), (∀ i : Int, a ≤ i → i < a + n → f i ≤ g i) → sumI f a n ≤ sumI g a n
  | 0, _, _ => Int.le_refl _
  | n + 1, a, h => by
    have h1 := h a (by omega) (by omega)
    have h2 := sumI_mono n (a + 1) (fun i i0 i1 => h i (by omega) (by omega))
    rw [sumI, sumI]
    omega
theorem pt_over {W : Int → Int} {n m : Int} (n1 : 1 ≤ n) (hw : ∀ g : Int, 0 ≤ g → g < n → 0 ≤ W g) (m0 : 0 ≤ m) (ha : 0 < sumI W 0 n.toNat) :
    ((m - sumI (fun g => (W g * m).tdiv (sumI W 0 n.toNat)) 0 n.toNat).toNat : Int) ≤ cn_ (fun g => (W g * m).tmod (sumI W 0 n.toNat)) (n - 1).toNat := by
  generalize ea : sumI W 0 n.toNat = a at ha
  have hr : ∀ g : Int, 0 ≤ g → g < n → 0 ≤ (W g * m).tmod a ∧ (W g * m).tmod a < a := fun g g0 g1 => rb_ (hw g g0 g1) m0 ha
  have e1 : sumI (fun g => W g * m) 0 n.toNat = a * m := by rw [sumI_mul, ea]
  have e2 : sumI (fun g => W g * m) 0 n.toNat = sumI (fun g => (W g * m).tdiv a * a + (W g * m).tmod a) 0 n.toNat := sumI_congr _ _ (fun i _ _ => by rw [Int.mul_comm ((W i * m).tdiv a) a]; exact (Int.mul_tdiv_add_tmod _ _).symm)
  rw [e1, sumI_add, sumI_mul] at e2
  have hc : cn_ (fun g => (W g * m).tmod a) (n - 1).toNat = sumI (fun g => if 0 < (W g * m).tmod a then 1 else 0) 0 n.toNat := by
    unfold cn_
    rw [show (n - 1).toNat + 1 = n.toNat by omega]
  have e3 : sumI (fun g => (W g * m).tmod a) 0 n.toNat ≤ sumI (fun g => (if 0 < (W g * m).tmod a then 1 else 0) * a) 0 n.toNat := by
    refine sumI_mono _ _ fun i i0 i1 => ?_
    have := hr i i0 (by omega)
    show (W i * m).tmod a ≤ (if 0 < (W i * m).tmod a then 1 else 0) * a
    split <;> omega
  rw [sumI_mul, ← hc] at e3
  generalize sumI (fun g => (W g * m).tdiv a) 0 n.toNat = s at e2 ⊢
  generalize hcc : cn_ (fun g => (W g * m).tmod a) (n - 1).toNat = c at e3 ⊢
  have hc0 : 0 ≤ c := by
    rw [← hcc, hc]
    exact sumI_nonneg _ _ (fun i _ _ => by split <;> omega)
  have e4 : (m - s) * a ≤ c * a := by
    rw [Int.sub_mul, Int.mul_comm m a]
    omega
  have e5 : m - s ≤ c := Int.le_of_mul_le_mul_right e4 ha
  omega
theorem pt_le {W : Int → Int} {n m : Int} (hw : ∀ g : Int, 0 ≤ g → g < n → 0 ≤ W g) (m0 : 0 ≤ m) : ∀ g : Int, 0 ≤ g → g < n → 0 ≤ pt_ W n m g ∧ pt_ W n m g ≤ m ∧ (m ≤ sumI W 0 n.toNat → pt_ W n m g ≤ W g) := by
  intro g g0 g1
  have hg := hw g g0 g1
  have hall := sumI_nonneg (f := W) n.toNat 0 (fun i i0 i1 => hw i i0 (by omega))
  have hge := sumI_ge (f := W) n.toNat 0 (fun i i0 i1 => hw i i0 (by omega)) g g0 (by omega)
  by_cases ha : sumI W 0 n.toNat = 0
  · unfold pt_
    rw [if_pos ha]
    exact ⟨Int.le_refl _, m0, fun _ => hg⟩
  · have hl := lr_le (n := (n - 1).toNat) _ (fun g => (W g * m).tdiv (sumI W 0 n.toNat)) (fun g => (W g * m).tmod (sumI W 0 n.toNat)) (pt_over (by omega) hw m0 (by omega)) g g0 (by omega)
    unfold pt_
    rw [if_neg ha]
    generalize sumI W 0 n.toNat = a at *
    have hb := gb_ hg hge m0 (by omega)
    have hr := rb_ (a := a) hg m0 (by omega)
    have ed : W g * m = (W g * m).tdiv a * a + (W g * m).tmod a := by rw [Int.mul_comm ((W g * m).tdiv a) a]; exact (Int.mul_tdiv_add_tmod _ _).symm
    generalize (W g * m).tdiv a = qq at *
    generalize (W g * m).tmod a = rr at *
    have hl1 := hl.1
    have hl2 := hl.2
    refine ⟨by omega, ?_, fun hm => ?_⟩
    · by_cases q : 0 < rr
      · rw [if_pos q] at hl2
        have h1 : qq * a < m * a := by
          have := Int.mul_le_mul_of_nonneg_right hge m0
          rw [Int.mul_comm a m] at this
          omega
        have h2 := Int.lt_of_mul_lt_mul_right h1 (by omega)
        omega
      · rw [if_neg q] at hl2
        omega
    · by_cases q : 0 < rr
      · rw [if_pos q] at hl2
        have h1 : qq * a < W g * a := by
          have := Int.mul_le_mul_of_nonneg_left hm hg
          omega
        have h2 := Int.lt_of_mul_lt_mul_right h1 (by omega)
        omega
      · rw [if_neg q] at hl2
        have h1 : qq * a ≤ W g * a := by
          have := Int.mul_le_mul_of_nonneg_left hm hg
          omega
        have h2 := Int.le_of_mul_le_mul_right h1 (by omega)
        omega
