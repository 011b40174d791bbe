/-! what is passed on by stocks is all that there was -/
theorem sumI_split (f : Int → Int) : ∀ (m k : Nat) (a : Int), sumI f a (m + k) = sumI f a m + sumI f (a + m) k
  | 0, k, a => by
    rw [sumI, Nat.zero_add, show a + ((0 : Nat) : Int) = a by omega]
    omega
  | m + 1, k, a => by
    rw [show m + 1 + k = (m + k) + 1 by omega, sumI, sumI, sumI_split f m k (a + 1), show a + 1 + (m : Int) = a + ((m + 1 : Nat) : Int) by omega]
    omega
/-- equal parts, one more to the first r of those that f marks -/
theorem cnt_sum {f : Int → Int} (hf : ∀ i : Int, f i = 0 ∨ f i = 1) (v r a : Int) : ∀ n : Nat, sumI (fun j => if f j = 1 then v + (if sumI f a (j - a).toNat < r then 1 else 0) else 0) a n = sumI f a n * v + max 0 (min r (sumI f a n)) ∧ 0 ≤ sumI f a n
  | 0 => by
    rw [sumI, sumI]
    omega
  | n + 1 => by
    have ih := cnt_sum hf v r a n
    rw [sumI_snoc, sumI_snoc, ih.1, show (a + (n : Int) - a).toNat = n by omega]
    have h1 := ih.2
    generalize sumI f a n = c at *
    rcases hf (a + n) with e | e
    · rw [e, if_neg (by omega), Int.add_zero, Int.add_zero]
      exact ⟨rfl, h1⟩
    · rw [e, if_pos rfl, Int.add_mul, Int.one_mul]
      refine ⟨?_, by omega⟩
      split <;> omega
theorem lvk_nn (n : Int) (pa dd : Int → Int) : ∀ (k : Nat) (q : Int), 0 ≤ lvk n pa dd k q
  | 0, _ => Int.le_refl _
  | k + 1, q => by
    rw [lvk]
    split
    · omega
    · exact sumI_nonneg _ _ (fun j _ _ => by
        split
        · exact lvk_nn n pa dd k j
        · omega)
theorem lvk_fuel {n : Int} {pa dd : Int → Int} : ∀ (k k' : Nat) (q : Int), 0 ≤ q → q < n → n - q ≤ k → n - q ≤ k' → lvk n pa dd k q = lvk n pa dd k' q
  | 0, _, q, q0, q1, h, _ => by omega
  | k + 1, 0, q, q0, q1, _, h => by omega
  | k + 1, k' + 1, q, q0, q1, h, h' => by
    rw [lvk, lvk]
    split
    · rfl
    · refine sumI_congr _ _ fun j j0 j1 => ?_
      split
      · exact lvk_fuel k k' j (by omega) (by omega) (by omega) (by omega)
      · rfl
theorem zlv_is {z : PH} (I : ZI z) {q : Int} (q0 : 0 ≤ q) (q1 : q < z 0 1) : 0 ≤ zlv z q ∧ zlv z q = if zdd z q = 0 then 1 else sumI (fun j => if z 2 j = q then zlv z j else 0) (q + 1) (z 0 1 - 1 - q).toNat := by
  have hP := I.2.2.1
  refine ⟨lvk_nn _ _ _ _ _, ?_⟩
  show lvk (z 0 1) (z 2) (zdd z) 12 q = _
  rw [lvk]
  split
  · rfl
  · refine sumI_congr _ _ fun j j0 j1 => ?_
    split
    · exact lvk_fuel 11 12 j (by omega) (by omega) (by omega) (by omega)
    · rfl
/-- what the living ahead of q have, and all from q on -/
def tq_ (n : Int) (dd P : Int → Int) (q : Int) : Int := sumI (fun p => if p < q ∧ ¬ dd p = 0 then 0 else P p) 0 n.toNat
theorem tq_step {n : Int} {pa dd lv P : Int → Int} {q : Int} (hpa : ∀ p : Int, 0 ≤ p → p < n → pa p < p) (q0 : 0 ≤ q) (q1 : q < n) (hl : 0 ≤ lv q ∧ lv q = if dd q = 0 then 1 else sumI (fun j => if pa j = q then lv j else 0) (q + 1) (n - 1 - q).toNat) (hln : ∀ p : Int, 0 ≤ p → p < n → 0 ≤ lv p)
    (h4 : 0 ≤ P q) (h1 : 0 < P q → 0 < lv q) (h2 : ∀ p : Int, 0 ≤ p → p < n → q ≤ pa p → P p = 0) : tq_ n dd (if ¬ dd q = 0 ∧ 0 < P q then ds_ n pa lv P q else P) (q + 1) = tq_ n dd P q := by
  by_cases c : ¬ dd q = 0 ∧ 0 < P q
  · rw [if_pos c]
    have hx := hl.2
    rw [if_neg c.1] at hx
    have hlq := h1 c.2
    -- somebody of the issue has a stock that isn't empty
    have hs1 : 1 ≤ ci__ pa lv q (q + 1) (n - 1 - q).toNat := by
      apply Classical.byContradiction
      intro w
      have h0 : sumI (fun j => if pa j = q then lv j else 0) (q + 1) (n - 1 - q).toNat = 0 := by
        refine sumI_nul _ _ fun j j0 j1 => ?_
        by_cases e : pa j = q
        · rw [if_pos e]
          have h3 := hln j (by omega) (by omega)
          have h5 : ¬ 0 < lv j := fun z => w (ci_ge ⟨e, z⟩ j0 j1)
          omega
        · exact if_neg e
      omega
    unfold tq_
    have hs : ∀ f : Int → Int, sumI f 0 n.toNat = sumI f 0 q.toNat + (sumI f q 1 + sumI f (q + 1) (n - 1 - q).toNat) := fun f => by
      rw [show n.toNat = q.toNat + (1 + (n - 1 - q).toNat) by omega, sumI_split, sumI_split, show (0 : Int) + (q.toNat : Int) = q by omega]
      first | done | rfl
    rw [hs, hs]
    have e1 : sumI (fun p => if p < q + 1 ∧ ¬ dd p = 0 then 0 else ds_ n pa lv P q p) 0 q.toNat = sumI (fun p => if p < q ∧ ¬ dd p = 0 then 0 else P p) 0 q.toNat := sumI_congr _ _ fun p p0 p1 => by
      rw [ds_le (by omega)]
      by_cases d : dd p = 0
      · rw [if_neg (fun w => w.2 d), if_neg (fun w => w.2 d)]
      · rw [if_pos ⟨by omega, d⟩, if_pos ⟨by omega, d⟩]
    have e2 : sumI (fun p => if p < q + 1 ∧ ¬ dd p = 0 then 0 else ds_ n pa lv P q p) q 1 = 0 := by
      rw [sumI, sumI, if_pos ⟨by omega, c.1⟩]
      rfl
    have e3 : sumI (fun p => if p < q ∧ ¬ dd p = 0 then 0 else P p) q 1 = P q := by
      rw [sumI, sumI, if_neg (by omega)]
      omega
    have e4 : sumI (fun p => if p < q + 1 ∧ ¬ dd p = 0 then 0 else ds_ n pa lv P q p) (q + 1) (n - 1 - q).toNat = P q + sumI (fun p => if p < q ∧ ¬ dd p = 0 then 0 else P p) (q + 1) (n - 1 - q).toNat := by
      have hf : ∀ i : Int, (fun p => if pa p = q ∧ 0 < lv p then (1 : Int) else 0) i = 0 ∨ (fun p => if pa p = q ∧ 0 < lv p then (1 : Int) else 0) i = 1 := fun i => by
        show (if pa i = q ∧ 0 < lv i then (1 : Int) else 0) = 0 ∨ (if pa i = q ∧ 0 < lv i then (1 : Int) else 0) = 1
        split
        · exact Or.inr rfl
        · exact Or.inl rfl
      have hc := (cnt_sum hf ((P q).tdiv (ci__ pa lv q (q + 1) (n - 1 - q).toNat)) ((P q).tmod (ci__ pa lv q (q + 1) (n - 1 - q).toNat)) (q + 1) (n - 1 - q).toNat).1
      have hci : sumI (fun p => if pa p = q ∧ 0 < lv p then (1 : Int) else 0) (q + 1) (n - 1 - q).toNat = ci__ pa lv q (q + 1) (n - 1 - q).toNat := rfl
      rw [hci] at hc
      have e5 : ci__ pa lv q (q + 1) (n - 1 - q).toNat * (P q).tdiv (ci__ pa lv q (q + 1) (n - 1 - q).toNat) + max 0 (min ((P q).tmod (ci__ pa lv q (q + 1) (n - 1 - q).toNat)) (ci__ pa lv q (q + 1) (n - 1 - q).toNat)) = P q := by
        generalize ci__ pa lv q (q + 1) (n - 1 - q).toNat = s at hs1 ⊢
        have a1 := Int.mul_tdiv_add_tmod (P q) s
        have a2 : (P q).tmod s = P q % s := Int.tmod_eq_emod_of_nonneg h4
        have a3 := Int.emod_nonneg (P q) (show s ≠ 0 by omega)
        have a4 := Int.emod_lt_of_pos (P q) (show 0 < s by omega)
        generalize s * (P q).tdiv s = w at *
        omega
      rw [e5] at hc
      rw [← hc, ← sumI_add]
      refine sumI_congr _ _ fun p p0 p1 => ?_
      have n1 : ¬ (p < q + 1 ∧ ¬ dd p = 0) := fun w => by omega
      have n2 : ¬ (p < q ∧ ¬ dd p = 0) := fun w => by omega
      rw [if_neg n1, if_neg n2]
      unfold ds_
      by_cases d : pa p = q ∧ 0 < lv p
      · have d1 : (if pa p = q ∧ 0 < lv p then (1 : Int) else 0) = 1 := if_pos d
        rw [if_pos ⟨by omega, by omega, d⟩, if_pos d1, h2 p (by omega) (by omega) (by omega), show p - (q + 1) = p - q - 1 by omega, Int.add_zero]
        rfl
      · have d1 : ¬ (if pa p = q ∧ 0 < lv p then (1 : Int) else 0) = 1 := by rw [if_neg d]; decide
        rw [if_neg (fun w => d w.2.2), if_neg d1, Int.zero_add]
    rw [e1, e2, e3, e4]
    omega
  · rw [if_neg c]
    unfold tq_
    refine sumI_congr _ _ fun p p0 p1 => ?_
    by_cases d : dd p = 0
    · rw [if_neg (fun w => w.2 d), if_neg (fun w => w.2 d)]
    · by_cases e : p = q
      · subst e
        rw [if_pos ⟨by omega, d⟩, if_neg (by omega)]
        have : ¬ 0 < P p := fun w => c ⟨d, w⟩
        omega
      · by_cases f : p < q
        · rw [if_pos ⟨by omega, d⟩, if_pos ⟨f, d⟩]
        · rw [if_neg (by omega), if_neg (by omega)]
theorem ps_sum {n : Int} {pa dd lv : Int → Int} (hpa : ∀ p : Int, 0 ≤ p → p < n → pa p < p) (hl : ∀ q : Int, 0 ≤ q → q < n → 0 ≤ lv q ∧ lv q = if dd q = 0 then 1 else sumI (fun j => if pa j = q then lv j else 0) (q + 1) (n - 1 - q).toNat) : ∀ (k : Nat) (q : Int) (P : Int → Int), 0 ≤ q → q + k = n → (∀ p : Int, 0 ≤ p → p < n → 0 ≤ P p) → (∀ p : Int, q ≤ p → p < n → 0 < P p → 0 < lv p) → (∀ p : Int, 0 ≤ p → p < n → q ≤ pa p → P p = 0) → sumI (fun p => if dd p = 0 then ps_ n pa dd lv k q P p else 0) 0 n.toNat = tq_ n dd P q
  | 0, q, P, q0, q1, _, _, _ => by
    unfold tq_
    refine sumI_congr _ _ fun p p0 p1 => ?_
    rw [ps_]
    by_cases d : dd p = 0
    · rw [if_pos d, if_neg (fun w => w.2 d)]
    · rw [if_neg d, if_pos ⟨by omega, d⟩]
  | k + 1, q, P, q0, q1, h4, h1, h2 => by
    rw [← tq_step hpa q0 (by omega) (hl q q0 (by omega)) (fun p a b => (hl p a b).1) (h4 q q0 (by omega)) (h1 q (Int.le_refl _) (by omega)) h2]
    rw [← ps_sum hpa hl k (q + 1) _ (by omega) (by omega) ?_ ?_ ?_]
    · exact sumI_congr _ _ fun p _ _ => by rw [ps_]
    · intro p p0 p1
      by_cases c : ¬ dd q = 0 ∧ 0 < P q
      · rw [if_pos c]
        have hb := sumI_nonneg (f := P) n.toNat 0 (fun i i0 i1 => h4 i i0 (by omega))
        exact (ds_bd (m := sumI P 0 n.toNat) q0 (by omega) (fun i i0 i1 => ⟨h4 i i0 i1, sumI_ge n.toNat 0 (fun j j0 j1 => h4 j j0 (by omega)) i i0 (by omega)⟩) p p0 p1).1
      · rw [if_neg c]
        exact h4 p p0 p1
    · intro p p0 p1
      by_cases c : ¬ dd q = 0 ∧ 0 < P q
      · rw [if_pos c]
        unfold ds_
        by_cases d : q < p ∧ p < n ∧ pa p = q ∧ 0 < lv p
        · exact fun _ => d.2.2.2
        · rw [if_neg d]
          exact h1 p (by omega) p1
      · rw [if_neg c]
        exact h1 p (by omega) p1
    · intro p p0 p1 hq
      by_cases c : ¬ dd q = 0 ∧ 0 < P q
      · rw [if_pos c]
        unfold ds_
        rw [if_neg (by omega)]
        exact h2 p p0 p1 (by omega)
      · rw [if_neg c]
        exact h2 p p0 p1 (by omega)
theorem pv_sum {n : Int} {pa dd lv : Int → Int} {m x : Int} (hpa : ∀ p : Int, 0 ≤ p → p < n → pa p < p) (hl : ∀ q : Int, 0 ≤ q → q < n → 0 ≤ lv q ∧ lv q = if dd q = 0 then 1 else sumI (fun j => if pa j = q then lv j else 0) (q + 1) (n - 1 - q).toNat) (m0 : 0 ≤ m) (x0 : 0 ≤ x) (x1 : x < n) (hx : 0 < lv x) : sumI (fun p => pv_ n pa dd lv m x p) 0 n.toNat = m := by
  have h := ps_sum (dd := dd) hpa hl (n - x).toNat x (fun y => if y = x then m else 0) x0 (by omega) (fun p _ _ => by
    show 0 ≤ (if p = x then m else 0)
    split <;> omega) (fun p _ _ q => by
    have q : 0 < (if p = x then m else 0) := q
    by_cases e : p = x
    · rw [e]; exact hx
    · rw [if_neg e] at q; omega) (fun p p0 p1 q => by
    have := hpa p p0 p1
    exact if_neg (by omega))
  show sumI (fun p => if dd p = 0 then ps_ n pa dd lv (n - x).toNat x (fun y => if y = x then m else 0) p else 0) 0 n.toNat = m
  rw [h]
  unfold tq_
  have e : sumI (fun p => if p < x ∧ ¬ dd p = 0 then 0 else (if p = x then m else 0)) 0 n.toNat = sumI (fun p => if p = x then m else (fun _ => (0 : Int)) p) 0 n.toNat := sumI_congr _ _ fun p _ _ => by
    by_cases d : p = x
    · rw [if_neg (by omega)]
    · rw [if_neg d]
      split <;> rfl
  rw [e, sumI_upd n.toNat 0 x0 (by omega), sumI_nul n.toNat 0 (fun _ _ _ => rfl)]
  omega
/-! all that is taken -/
theorem zgt_live {z : PH} (I : ZI z) {g c : Int} (g0 : 0 ≤ g) (g1 : g < z 0 2) (c0 : 0 ≤ c) (c6 : c ≤ 6) (h : 0 < zgt z g c) : zlp z g = 0 := by
  apply Classical.byContradiction
  intro q
  have hd : ∀ k : Int, k ≤ 4 → zd5 z g k = 0 := fun k k4 => by
    unfold zd5
    rw [d5_lo k4]
    unfold zdu
    exact if_pos q
  have hg : ∀ k : Int, 0 ≤ k → k ≤ 5 → zd5 z g k = 0 → gt_ (zd5 z) (z 0 2) (zav z) g k = 0 := fun k k0 k5 e => by
    have := gt_bd (D := zd5 z) (n := z 0 2) (c := k) (zav_bd I).1 k0 (fun g k a b _ _ => zd5_nn I g k a b) g g0 g1
    omega
  by_cases e6 : c = 6
  · have e : zgt z g c = zp6 z g := if_pos e6
    rw [e] at h
    have h0 : zp6 z g = 0 := pt_zero (fun g a b => (zwr_bd I a b).1) (zrs_bd I).1 g0 g1 (by unfold zwr wr_; exact if_neg (fun w => q w.2))
    omega
  · have e : zgt z g c = gt_ (zd5 z) (z 0 2) (zav z) g c := if_neg e6
    rw [e] at h
    by_cases e5 : c = 5
    · subst e5
      have h5 : zd5 z g 5 = 0 := by
        unfold zd5
        rw [d5_5]
        unfold it_
        rw [sumI_nul 4 1 (fun k k0 k1 => by
          rw [d5_gt (zdu z) (z 0 2) (zav z) (z 1 59) (zlate z) (by omega) (by omega) g g0 g1]
          exact hg k (by omega) (by omega) (hd k (by omega))), Int.zero_mul, Int.zero_mul, Int.zero_tdiv]
      have := hg 5 (by omega) (by omega) h5
      omega
    · have := hg c c0 (by omega) (hd c (by omega))
      omega
theorem zlp_lv {z : PH} (I : ZI z) {g : Int} (g0 : 0 ≤ g) (g1 : g < z 0 2) (h : zlp z g = 0) : 0 < zlv z (z 6 g) := by
  have hx := (I.2.2.2.2.2 g g0 g1).2.1
  have hn := (zlv_is I hx.1 hx.2).1
  have h1 := b01_0.mp h
  have h2 : ¬ zlv z (z 6 g) = 0 := fun e => h1 (Or.inr (Or.inr e))
  omega
theorem zpa_lt {z : PH} (I : ZI z) : ∀ p : Int, 0 ≤ p → p < z 0 1 → z 2 p < p := fun p p0 p1 => (I.2.2.2.2.1 p p0 p1).1.2
/-- all that is taken of a gift is what it gets -/
theorem ztk_sum {z : PH} (I : ZI z) {g : Int} (g0 : 0 ≤ g) (g1 : g < z 0 2) : sumI (fun p => ztk z g p) 0 (z 0 1).toNat = sumI (fun c => zgt z g c) 0 7 := by
  have hx := (I.2.2.2.2.2 g g0 g1).2.1
  have e : sumI (fun p => ztk z g p) 0 (z 0 1).toNat = sumI (fun p => sumI (fun c => if 0 < zgt z g c then pv_ (z 0 1) (z 2) (zdd z) (zlv z) (zgt z g c) (z 6 g) p else 0) 0 7) 0 (z 0 1).toNat := rfl
  rw [e, sumI_swap]
  refine sumI_congr _ _ fun c c0 c1 => ?_
  have hb := zgt_bd I (c := c) g0 g1 c0
  by_cases q : 0 < zgt z g c
  · rw [sumI_congr (g := fun p => pv_ (z 0 1) (z 2) (zdd z) (zlv z) (zgt z g c) (z 6 g) p) _ _ (fun p _ _ => if_pos q)]
    exact pv_sum (zpa_lt I) (fun q a b => zlv_is I a b) hb.1 hx.1 hx.2 (zlp_lv I g0 g1 (zgt_live I g0 g1 c0 (by omega) q))
  · rw [sumI_nul _ _ (fun p _ _ => if_neg q)]
    omega
theorem zih_sum {z : PH} (I : ZI z) : sumI (fun p => zih z p) 0 (z 0 1).toNat = if 0 < zhr z then zin z else 0 := by
  have hP := I.2.2.1
  have hi := zin_bd I
  have e : sumI (fun p => zih z p) 0 (z 0 1).toNat = sumI (fun p => sumI (fun x => if ¬ z 3 x = 0 ∧ 0 < zlv z x then pv_ (z 0 1) (z 2) (zdd z) (zlv z) (hp_ (z 3) (zlv z) (zhr z) (zin z) x) x p else 0) 0 (z 0 1).toNat) 0 (z 0 1).toNat := rfl
  rw [e, sumI_swap]
  have hf : ∀ i : Int, (fun j => if ¬ z 3 j = 0 ∧ 0 < zlv z j then (1 : Int) else 0) i = 0 ∨ (fun j => if ¬ z 3 j = 0 ∧ 0 < zlv z j then (1 : Int) else 0) i = 1 := fun i => by
    show (if ¬ z 3 i = 0 ∧ 0 < zlv z i then (1 : Int) else 0) = 0 ∨ (if ¬ z 3 i = 0 ∧ 0 < zlv z i then (1 : Int) else 0) = 1
    split
    · exact Or.inr rfl
    · exact Or.inl rfl
  have hc := cnt_sum hf ((zin z).tdiv (zhr z)) ((zin z).tmod (zhr z)) 0 (z 0 1).toNat
  have hr0 : 0 ≤ zhr z := hc.2
  have e2 : sumI (fun x => sumI (fun p => if ¬ z 3 x = 0 ∧ 0 < zlv z x then pv_ (z 0 1) (z 2) (zdd z) (zlv z) (hp_ (z 3) (zlv z) (zhr z) (zin z) x) x p else 0) 0 (z 0 1).toNat) 0 (z 0 1).toNat = sumI (fun j => if (fun j => if ¬ z 3 j = 0 ∧ 0 < zlv z j then (1 : Int) else 0) j = 1 then (zin z).tdiv (zhr z) + (if sumI (fun j => if ¬ z 3 j = 0 ∧ 0 < zlv z j then (1 : Int) else 0) 0 (j - 0).toNat < (zin z).tmod (zhr z) then 1 else 0) else 0) 0 (z 0 1).toNat := by
    refine sumI_congr _ _ fun x x0 x1 => ?_
    show sumI (fun p => if ¬ z 3 x = 0 ∧ 0 < zlv z x then pv_ (z 0 1) (z 2) (zdd z) (zlv z) (hp_ (z 3) (zlv z) (zhr z) (zin z) x) x p else 0) 0 (z 0 1).toNat = if (if ¬ z 3 x = 0 ∧ 0 < zlv z x then (1 : Int) else 0) = 1 then _ else 0
    by_cases q : ¬ z 3 x = 0 ∧ 0 < zlv z x
    · rw [if_pos (if_pos q), sumI_congr (g := fun p => pv_ (z 0 1) (z 2) (zdd z) (zlv z) (hp_ (z 3) (zlv z) (zhr z) (zin z) x) x p) _ _ (fun p _ _ => if_pos q)]
      have hr : 1 ≤ zhr z := by
        have := sumI_ge (f := fun j => if ¬ z 3 j = 0 ∧ 0 < zlv z j then (1 : Int) else 0) (z 0 1).toNat 0 (fun j _ _ => by split <;> omega) x x0 (by omega)
        rw [if_pos q] at this
        exact this
      rw [pv_sum (zpa_lt I) (fun q a b => zlv_is I a b) (hp_bd hr hi.1).1 x0 (by omega) q.2, show x - 0 = x by omega]
      rfl
    · have q2 : ¬ (if ¬ z 3 x = 0 ∧ 0 < zlv z x then (1 : Int) else 0) = 1 := by rw [if_neg q]; decide
      rw [if_neg q2]
      exact sumI_nul _ _ (fun p _ _ => if_neg q)
  rw [e2, hc.1]
  show zhr z * (zin z).tdiv (zhr z) + max 0 (min ((zin z).tmod (zhr z)) (zhr z)) = _
  by_cases q : 0 < zhr z
  · rw [if_pos q]
    have a1 := Int.mul_tdiv_add_tmod (zin z) (zhr z)
    have a2 : (zin z).tmod (zhr z) = zin z % zhr z := Int.tmod_eq_emod_of_nonneg hi.1
    have a3 := Int.emod_nonneg (zin z) (show zhr z ≠ 0 by omega)
    have a4 := Int.emod_lt_of_pos (zin z) q
    generalize zhr z * (zin z).tdiv (zhr z) = w at *
    omega
  · rw [if_neg q]
    have e0 : zhr z = 0 := by omega
    rw [e0, Int.zero_mul]
    omega
/-- what all persons take and what is nobody's is what was available -/
theorem zta_sum {z : PH} (I : ZI z) : sumI (fun p => zta z p) 0 (z 0 1).toNat + zbo z = zav z := by
  have e : sumI (fun p => zta z p) 0 (z 0 1).toNat = sumI (fun p => zih z p + sumI (fun g => ztk z g p) 0 (z 0 2).toNat) 0 (z 0 1).toNat := rfl
  rw [e, sumI_add, sumI_swap, zih_sum I, sumI_congr (g := fun g => sumI (fun c => zgt z g c) 0 7) _ _ (fun g g0 g1 => ztk_sum I g0 (by omega)), sumI_swap]
  have e1 : sumI (fun c => sumI (fun g => zgt z g c) 0 (z 0 2).toNat) 0 7 = sumI (fun c => zclassed z c 1) 0 6 + sumI (fun g => zp6 z g) 0 (z 0 2).toNat := by
    rw [sumI_snoc]
    have w1 : sumI (fun c => sumI (fun g => zgt z g c) 0 (z 0 2).toNat) 0 6 = sumI (fun c => zclassed z c 1) 0 6 := sumI_congr _ _ fun c c0 c1 => by
      unfold zclassed
      rw [if_neg (by omega), if_pos rfl]
    have w2 : sumI (fun g => zgt z g (0 + ((6 : Nat) : Int))) 0 (z 0 2).toNat = sumI (fun g => zp6 z g) 0 (z 0 2).toNat := sumI_congr _ _ fun g _ _ => if_pos rfl
    rw [w1, w2]
  rw [e1, zcl_sum I]
  have e2 : sumI (fun g => zp6 z g) 0 (z 0 2).toNat = if zsw z = 0 then 0 else zrs z := pt_all (W := zwr z) (n := z 0 2) (m := zrs z) (fun g a b => (zwr_bd I a b).1) (zrs_bd I).1
  rw [e2]
  unfold zin zbo
  by_cases a : zsw z = 0
  · by_cases b : 0 < zhr z
    · rw [if_pos a, if_pos b, if_pos ⟨a, b⟩, if_neg (fun w => w.2 b)]
      omega
    · rw [if_pos a, if_neg b, if_pos ⟨a, b⟩]
      omega
  · have n1 : ¬ (zsw z = 0 ∧ 0 < zhr z) := fun w => a w.1
    have n2 : ¬ (zsw z = 0 ∧ ¬ 0 < zhr z) := fun w => a w.1
    have n3 : (if 0 < zhr z then (0 : Int) else 0) = 0 := by split <;> rfl
    rw [if_neg a, if_neg n1, if_neg n2, n3]
    omega
