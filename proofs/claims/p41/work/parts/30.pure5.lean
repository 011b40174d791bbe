/-! how many live in each stock, counted from the last person on -/
def stk_ (n : Int) (pa dd ch : Int → Int) (i : Int) (l : Int → Int) (hr : Int) : Prop :=
  (∀ q : Int, i < q → q < n → l q = if dd q = 0 then 1 else sumI (fun j => if pa j = q then l j else 0) (q + 1) (n - 1 - q).toNat) ∧
  (∀ q : Int, 0 ≤ q → q ≤ i → l q = sumI (fun j => if pa j = q then l j else 0) (i + 1) (n - 1 - i).toNat) ∧
  hr = sumI (fun j => if ¬ ch j = 0 ∧ 0 < l j then 1 else 0) (i + 1) (n - 1 - i).toNat
theorem stk_step {n : Int} {pa dd ch : Int → Int} {i : Int} {l l' : Int → Int} {hr hr' : Int} (H : stk_ n pa dd ch i l hr) (i0 : 0 ≤ i) (i1 : i < n)
    (e1 : l' i = if dd i = 0 then 1 else l i) (e2 : ∀ q : Int, 0 ≤ q → q < i → l' q = l q + if pa i = q then l' i else 0) (e3 : ∀ j : Int, i < j → j < n → l' j = l j)
    (e4 : hr' = hr + if ¬ ch i = 0 ∧ 0 < l' i then 1 else 0) : stk_ n pa dd ch (i + -1) l' hr' := by
  obtain ⟨h1, h2, h3⟩ := H
  have c1 : ∀ (q a : Int), i < a → sumI (fun j => if pa j = q then l' j else 0) a (n - a).toNat = sumI (fun j => if pa j = q then l j else 0) a (n - a).toNat := by
    intro q a ha
    by_cases hn : a ≤ n
    · refine sumI_congr _ _ fun j j0 j1 => ?_
      rw [e3 j (by omega) (by omega)]
    · rw [show (n - a).toNat = 0 by omega]
      rfl
  have t : (n - 1 - (i + -1)).toNat = (n - 1 - i).toNat + 1 := by omega
  have c2 : ∀ q : Int, sumI (fun j => if pa j = q then l' j else 0) (i + 1) (n - 1 - i).toNat = sumI (fun j => if pa j = q then l j else 0) (i + 1) (n - 1 - i).toNat := by
    intro q
    have := c1 q (i + 1) (by omega)
    rwa [show n - (i + 1) = n - 1 - i by omega] at this
  refine ⟨fun q q0 q1 => ?_, fun q q0 q1 => ?_, ?_⟩
  · by_cases e : q = i
    · subst e
      rw [c2 q, e1]
      split
      · rfl
      · exact h2 q i0 (Int.le_refl _)
    · rw [e3 q (by omega) q1, h1 q (by omega) q1]
      have := c1 q (q + 1) (by omega)
      rw [show n - (q + 1) = n - 1 - q by omega] at this
      rw [this]
  · rw [t, show i + -1 + 1 = i by omega, sumI, c2 q, e2 q q0 (by omega), ← h2 q q0 (by omega)]
    omega
  · rw [t, show i + -1 + 1 = i by omega, sumI, e4, h3]
    have c3 : sumI (fun j => if ¬ ch j = 0 ∧ 0 < l' j then 1 else 0) (i + 1) (n - 1 - i).toNat = sumI (fun j => if ¬ ch j = 0 ∧ 0 < l j then 1 else 0) (i + 1) (n - 1 - i).toNat := by
      refine sumI_congr _ _ fun j j0 j1 => ?_
      rw [e3 j (by omega) (by omega)]
    rw [c3]
    omega
/-- .. of all: what each living number is, how many heirs -/
def liv_ (n : Int) (pa dd ch l : Int → Int) (hr : Int) : Prop :=
  (∀ q : Int, 0 ≤ q → q < n → l q = if dd q = 0 then 1 else sumI (fun j => if pa j = q then l j else 0) (q + 1) (n - 1 - q).toNat) ∧
  hr = sumI (fun j => if ¬ ch j = 0 ∧ 0 < l j then 1 else 0) 0 n.toNat
theorem stk_end {n : Int} {pa dd ch l : Int → Int} {hr i : Int} (H : stk_ n pa dd ch i l hr) (hi : i = -1) : liv_ n pa dd ch l hr := by
  subst hi
  refine ⟨fun q q0 q1 => H.1 q (by omega) q1, ?_⟩
  have := H.2.2
  rwa [show (-1 : Int) + 1 = 0 by rfl, show n - 1 - (-1 : Int) = n by omega] at this
theorem stk_0 {n : Int} {pa dd ch l : Int → Int} (h : ∀ q : Int, 0 ≤ q → q < n → l q = 0) : stk_ n pa dd ch (n - 1) l 0 := by
  refine ⟨fun q q0 q1 => by omega, fun q q0 q1 => ?_, ?_⟩
  · rw [h q q0 (by omega), show (n - 1 - (n - 1)).toNat = 0 by omega]
    rfl
  · rw [show (n - 1 - (n - 1)).toNat = 0 by omega]
    rfl
theorem pw12 {m : Nat} (h : m + 1 ≤ 12) : (2 : Int) ^ (12 - m) = 2 * 2 ^ (12 - (m + 1)) := by
  rw [show 12 - m = (12 - (m + 1)) + 1 by omega, Int.pow_succ]
  omega
theorem pw_le (m : Nat) : (2 : Int) ^ (12 - m) ≤ 4096 := by
  have h1 : 2 ^ (12 - m) ≤ 2 ^ 12 := Nat.pow_le_pow_right (by decide) (by omega)
  have h2 : ((2 ^ (12 - m) : Nat) : Int) ≤ 4096 := by
    have : (2 ^ 12 : Nat) = 4096 := by decide
    omega
  rwa [Int.natCast_pow] at h2
theorem pw_ge (m : Nat) : (1 : Int) ≤ 2 ^ m := by
  have h1 : 1 ≤ 2 ^ m := Nat.one_le_two_pow
  have h2 : (1 : Int) ≤ ((2 ^ m : Nat) : Int) := by omega
  rwa [Int.natCast_pow] at h2
