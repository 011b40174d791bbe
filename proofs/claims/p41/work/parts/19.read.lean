/-! reads behind writes: used by simp with omega -/
theorem hs_same {h : PH} {a k v x y : Int} (e1 : x = a) (e2 : y = k) : hs_ h a k v x y = v := by rw [e1, e2, hs_eq]
theorem hs_oth {h : PH} {a k v x y : Int} (e : ¬ x = a) : hs_ h a k v x y = h x y := hs_ne h (fun q => e q.1)
theorem hs_otk {h : PH} {a k v x y : Int} (e : ¬ y = k) : hs_ h a k v x y = h x y := hs_ne h (fun q => e q.2)
theorem fl_oth {h : PH} {a i n v x y : Int} (e : ¬ x = a) : fl_ h a i n v x y = h x y := if_neg (fun q => e q.1)
theorem fl_in {h : PH} {a i n v x y : Int} (e : x = a) (e1 : i ≤ y) (e2 : y < n) : fl_ h a i n v x y = v := if_pos ⟨e, e1, e2⟩
theorem fl_out {h : PH} {a i n v x y : Int} (e : ¬ (i ≤ y ∧ y < n)) : fl_ h a i n v x y = h x y := if_neg (fun q => e q.2)
theorem cp_inn {h : PH} {a sp b dp n x y : Int} (e : x = b) (e1 : dp ≤ y) (e2 : y < dp + n) : cp_ h a sp b dp n x y = h a (sp + (y - dp)) := if_pos ⟨e, e1, e2⟩
theorem cp_outt {h : PH} {a sp b dp n x y : Int} (e : ¬ (dp ≤ y ∧ y < dp + n)) : cp_ h a sp b dp n x y = h x y := if_neg (fun q => e q.2)
/-- f a + f (a + 1) + .., n of them -/
def sumI (f : Int → Int) (a : Int) : Nat → Int
  | 0 => 0
  | n + 1 => f a + sumI f (a + 1) n
theorem sumI_snoc (f : Int → Int) : ∀ (n : Nat) (a : Int), sumI f a (n + 1) = sumI f a n + f (a + n)
  | 0, a => by simp [sumI]
  | n + 1, a => by
    rw [sumI, sumI_snoc f n (a + 1), sumI]
    have e : a + 1 + (n : Int) = a + ((n + 1 : Nat) : Int) := by omega
    rw [e]
    omega
theorem sumI_congr {f g : Int → Int} : ∀ (n : Nat) (a : Int), (∀ i : Int, a ≤ i → i < a + n → f i = g i) → sumI f a n = sumI g a n
  | 0, _, _ => rfl
  | n + 1, a, h => by
    rw [sumI, sumI, h a (by omega) (by omega), sumI_congr n (a + 1) (fun i i0 i1 => h i (by omega) (by omega))]
theorem sumI_nonneg {f : Int → Int} : ∀ (n : Nat) (a : Int), (∀ i : Int, a ≤ i → i < a + n → 0 ≤ f i) → 0 ≤ sumI f a n
  | 0, _, _ => Int.le_refl _
  | n + 1, a, h => by
    have h1 := h a (by omega) (by omega)
    have h2 := sumI_nonneg n (a + 1) (fun i i0 i1 => h i (by omega) (by omega))
    rw [sumI]
    omega
theorem sumI_le {f : Int → Int} {b : Int} : ∀ (n : Nat) (a : Int), (∀ i : Int, a ≤ i → i < a + n → f i ≤ b) → sumI f a n ≤ n * b
  | 0, _, _ => by simp [sumI]
  | n + 1, a, h => by
    have h1 := h a (by omega) (by omega)
    have h2 := sumI_le n (a + 1) (fun i i0 i1 => h i (by omega) (by omega))
    rw [sumI]
    have e : ((n + 1 : Nat) : Int) * b = n * b + b := by rw [Int.natCast_succ, Int.add_mul, Int.one_mul]
    omega
theorem fl_ne {h : PH} {a i n v x y : Int} (e : ¬ (x = a ∧ i ≤ y ∧ y < n)) : fl_ h a i n v x y = h x y := if_neg e
theorem cp_nee {h : PH} {a sp b dp n x y : Int} (e : ¬ (x = b ∧ dp ≤ y ∧ y < dp + n)) : cp_ h a sp b dp n x y = h x y := if_neg e
theorem s_lconstz {E : EP} {M : PM} {d bc bs : Nat} {Q : PQ} {pc : Nat} {L st : List PV} {N : Nat} {h : PH} {z : Int} {n : Fin 2} (hd : decode M.2.1 pc = .ok (.lconst n, 1)) (hz : ((n : Nat) : Int) = z) (k : SE_ E M d bc bs Q (pc + 1) L ((1, z) :: st) N h) : SE_ E M d bc bs Q pc L st N h := by
  subst hz
  exact s_lconst hd k
