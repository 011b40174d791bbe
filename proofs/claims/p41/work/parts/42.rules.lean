/-! more rules: a branch on a number that may have wrapped; sums -/
section RULES6
variable {E : EP} {M : PM} {d bc bs : Nat} {Q : PQ} {pc : Nat} {L st : List PV} {N : Nat} {h : PH}
theorem s_if_neW {x : Int} {off : Int} {tgt : Nat} (hd : decode M.2.1 pc = .ok (.ifCond .ne off, 3)) (ht : (pc : Int) + off = (tgt : Int)) (kt : ¬ x % 4294967296 = 0 → SE_ E M d bc bs Q tgt L st N h) (kf : x % 4294967296 = 0 → SE_ E M d bc bs Q (pc + 3) L st N h) : SE_ E M d bc bs Q pc L ((0, x) :: st) N h :=
  fun l s0 D dA ad p e R s m args below meth c H locs cells slots mc ms ls hG hC hW hL => lv_if_ne (cx_ex hC) (cx_cb hC) hd ht (fun a => kt (fun z => a (w32_0.mpr z)) l s0 D dA ad p e R s m args below meth c H locs cells slots mc ms ls hG hC hW hL) (fun a => kf (w32_0.mp a) l s0 D dA ad p e R s m args below meth c H locs cells slots mc ms ls hG hC hW hL)
end RULES6
theorem ci_up {pa lv : Int → Int} {q i : Int} (h : q < i) : ci__ pa lv q (q + 1) (i + 1 - q - 1).toNat = ci__ pa lv q (q + 1) (i - q - 1).toNat + (if pa i = q ∧ 0 < lv i then 1 else 0) := by
  unfold ci__
  rw [show (i + 1 - q - 1).toNat = (i - q - 1).toNat + 1 by omega, sumI_snoc]
  rw [show q + 1 + ((i - q - 1).toNat : Int) = i by omega]
theorem sk_le {pa dd : Int → Int} {x : Int} : ∀ (m : Nat) (p : Int) (S : Int → Int) (y : Int), y < p → sk_ pa dd x m p S y = S y
  | 0, _, _, _, _ => rfl
  | m + 1, p, S, y, h => by
    rw [sk_, sk_le m (p + 1) _ y (by omega)]
    split
    · exact if_neg (by omega)
    · rfl
theorem sk_congr {pa dd : Int → Int} {x n : Int} (x0 : 0 ≤ x) (hp : ∀ p : Int, 0 ≤ p → p < n → pa p < p) : ∀ (m : Nat) (p : Int) (S S' : Int → Int), 0 ≤ p → p + m ≤ n → (∀ y : Int, 0 ≤ y → y < n → S y = S' y) → ∀ y : Int, 0 ≤ y → y < n → sk_ pa dd x m p S y = sk_ pa dd x m p S' y
  | 0, _, _, _, _, _, h, y, y0, y1 => h y y0 y1
  | m + 1, p, S, S', q0, q1, h, y, y0, y1 => by
    rw [sk_, sk_]
    have h1 := hp p q0 (by omega)
    refine sk_congr x0 hp m (p + 1) _ _ (by omega) (by omega) (fun z z0 z1 => ?_) y y0 y1
    by_cases c : x ≤ pa p
    · rw [h (pa p) (by omega) (by omega)]
      split
      · show (if z = p then 1 else S z) = if z = p then 1 else S' z
        rw [h z z0 z1]
      · exact h z z0 z1
    · rw [if_neg (fun q => c q.1), if_neg (fun q => c q.1)]
      exact h z z0 z1
theorem pv_congr {n n' : Int} {pa pa' dd dd' lv lv' : Int → Int} {m x p : Int} (e1 : n = n') (e2 : pa = pa') (e3 : dd = dd') (e4 : lv = lv') : pv_ n pa dd lv m x p = pv_ n' pa' dd' lv' m x p := by rw [e1, e2, e3, e4]
theorem sumI_zero (f : Int → Int) : ∀ (n : Nat) {a : Int}, (∀ i : Int, a ≤ i → i < a + n → f i = 0) → sumI f a n = 0
  | 0, _, _ => rfl
  | n + 1, a, h => by
    rw [sumI, h a (Int.le_refl _) (by omega), sumI_zero f n (fun i i0 i1 => h i (by omega) (by omega))]
    rfl
