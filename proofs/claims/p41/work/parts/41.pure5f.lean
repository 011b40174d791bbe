/-! what is passed on by stocks -/
/-- how many of n persons from a on are issue of q whose stock isn't empty -/
def ci__ (pa lv : Int → Int) (q a : Int) (n : Nat) : Int := sumI (fun p => if pa p = q ∧ 0 < lv p then 1 else 0) a n
/-- what is passed to q parted among its issue -/
def ds_ (n : Int) (pa lv P : Int → Int) (q p : Int) : Int :=
  if q < p ∧ p < n ∧ pa p = q ∧ 0 < lv p then (P q).tdiv (ci__ pa lv q (q + 1) (n - 1 - q).toNat) + (if ci__ pa lv q (q + 1) (p - q - 1).toNat < (P q).tmod (ci__ pa lv q (q + 1) (n - 1 - q).toNat) then 1 else 0) else P p
def ps_ (n : Int) (pa dd lv : Int → Int) : Nat → Int → (Int → Int) → Int → Int
  | 0, _, P => P
  | m + 1, q, P => ps_ n pa dd lv m (q + 1) (if ¬ dd q = 0 ∧ 0 < P q then ds_ n pa lv P q else P)
/-- what p takes of m that is passed to the stock of x -/
def pv_ (n : Int) (pa dd lv : Int → Int) (m x p : Int) : Int := if dd p = 0 then ps_ n pa dd lv (n - x).toNat x (fun y => if y = x then m else 0) p else 0
theorem ci_nn (pa lv : Int → Int) (q a : Int) (n : Nat) : 0 ≤ ci__ pa lv q a n := sumI_nonneg _ _ (fun i _ _ => by split <;> omega)
theorem ci_bd (pa lv : Int → Int) (q a : Int) (n : Nat) : ci__ pa lv q a n ≤ n := by
  have := sumI_le (f := fun p => if pa p = q ∧ 0 < lv p then (1 : Int) else 0) (b := 1) n a (fun i _ _ => by split <;> omega)
  unfold ci__
  omega
theorem ci_ge {pa lv : Int → Int} {q a p : Int} {n : Nat} (h : pa p = q ∧ 0 < lv p) (p0 : a ≤ p) (p1 : p < a + n) : 1 ≤ ci__ pa lv q a n := by
  have := sumI_ge (f := fun p => if pa p = q ∧ 0 < lv p then (1 : Int) else 0) n a (fun i _ _ => by split <;> omega) p p0 p1
  simp only [if_pos h] at this
  exact this
theorem ds_le {n : Int} {pa lv P : Int → Int} {q p : Int} (h : p ≤ q) : ds_ n pa lv P q p = P p := if_neg (by omega)
theorem ps_le {n : Int} {pa dd lv : Int → Int} : ∀ (m : Nat) (q : Int) (P : Int → Int) (p : Int), p ≤ q → ps_ n pa dd lv m q P p = P p
  | 0, _, _, _, _ => rfl
  | m + 1, q, P, p, h => by
    rw [ps_, ps_le m (q + 1) _ p (by omega)]
    split
    · exact ds_le h
    · rfl
theorem ds_congr {n : Int} {pa lv P P' : Int → Int} {q : Int} (q0 : 0 ≤ q) (q1 : q < n) (h : ∀ p : Int, 0 ≤ p → p < n → P p = P' p) : ∀ p : Int, 0 ≤ p → p < n → ds_ n pa lv P q p = ds_ n pa lv P' q p := by
  intro p p0 p1
  unfold ds_
  rw [h q q0 q1, h p p0 p1]
theorem ps_congr {n : Int} {pa dd lv : Int → Int} : ∀ (m : Nat) (q : Int) (P P' : Int → Int), 0 ≤ q → q + m ≤ n → (∀ p : Int, 0 ≤ p → p < n → P p = P' p) → ∀ p : Int, 0 ≤ p → p < n → ps_ n pa dd lv m q P p = ps_ n pa dd lv m q P' p
  | 0, _, _, _, _, _, h, p, p0, p1 => h p p0 p1
  | m + 1, q, P, P', q0, q1, h, p, p0, p1 => by
    rw [ps_, ps_]
    refine ps_congr m (q + 1) _ _ (by omega) (by omega) (fun y y0 y1 => ?_) p p0 p1
    rw [h q q0 (by omega)]
    split
    · exact ds_congr q0 (by omega) h y y0 y1
    · exact h y y0 y1
theorem ds_bd {n : Int} {pa lv P : Int → Int} {q m : Int} (q0 : 0 ≤ q) (q1 : q < n) (h : ∀ p : Int, 0 ≤ p → p < n → 0 ≤ P p ∧ P p ≤ m) : ∀ p : Int, 0 ≤ p → p < n → 0 ≤ ds_ n pa lv P q p ∧ ds_ n pa lv P q p ≤ m := by
  intro p p0 p1
  unfold ds_
  split
  · rename_i hc
    have hs := ci_ge (pa := pa) (lv := lv) (q := q) (a := q + 1) (p := p) (n := (n - 1 - q).toNat) hc.2.2 (by omega) (by omega)
    generalize ci__ pa lv q (q + 1) (n - 1 - q).toNat = s at hs ⊢
    have hq := h q q0 q1
    have e1 : (P q).tdiv s = P q / s := Int.tdiv_eq_ediv_of_nonneg hq.1
    have e2 : (P q).tmod s = P q % s := Int.tmod_eq_emod_of_nonneg hq.1
    rw [e1, e2]
    have h1 : 0 ≤ P q / s := Int.ediv_nonneg hq.1 (by omega)
    have h2 := Int.mul_ediv_add_emod (P q) s
    have h3 := Int.emod_nonneg (P q) (show s ≠ 0 by omega)
    have h4 : 1 * (P q / s) ≤ s * (P q / s) := Int.mul_le_mul_of_nonneg_right hs h1
    have h5 := ci_nn pa lv q (q + 1) (p - q - 1).toNat
    split <;> omega
  · exact h p p0 p1
theorem ps_bd {n : Int} {pa dd lv : Int → Int} {b : Int} : ∀ (m : Nat) (q : Int) (P : Int → Int), 0 ≤ q → q + m ≤ n → (∀ p : Int, 0 ≤ p → p < n → 0 ≤ P p ∧ P p ≤ b) → ∀ p : Int, 0 ≤ p → p < n → 0 ≤ ps_ n pa dd lv m q P p ∧ ps_ n pa dd lv m q P p ≤ b
  | 0, _, _, _, _, h, p, p0, p1 => h p p0 p1
  | m + 1, q, P, q0, q1, h, p, p0, p1 => by
    rw [ps_]
    refine ps_bd m (q + 1) _ (by omega) (by omega) (fun y y0 y1 => ?_) p p0 p1
    split
    · exact ds_bd q0 (by omega) h y y0 y1
    · exact h y y0 y1
theorem pv_bd {n : Int} {pa dd lv : Int → Int} {m x : Int} (m0 : 0 ≤ m) (x0 : 0 ≤ x) (x1 : x < n) : ∀ p : Int, 0 ≤ p → p < n → 0 ≤ pv_ n pa dd lv m x p ∧ pv_ n pa dd lv m x p ≤ m := by
  intro p p0 p1
  unfold pv_
  split
  · exact ps_bd (n - x).toNat x _ x0 (by omega) (fun y _ _ => by split <;> omega) p p0 p1
  · exact ⟨Int.le_refl _, m0⟩
/-- what p takes of a gift to x that gets G c in class c -/
def tg_ (n : Int) (pa dd lv G : Int → Int) (x p : Int) : Int := sumI (fun c => if 0 < G c then pv_ n pa dd lv (G c) x p else 0) 0 7
/-- the part of heir x of what is intestate -/
def hp_ (ch lv : Int → Int) (H I x : Int) : Int := I.tdiv H + (if sumI (fun j => if ¬ ch j = 0 ∧ 0 < lv j then 1 else 0) 0 x.toNat < I.tmod H then 1 else 0)
/-- what p takes of what is intestate -/
def ih_ (n : Int) (pa dd ch lv : Int → Int) (H I p : Int) : Int := sumI (fun x => if ¬ ch x = 0 ∧ 0 < lv x then pv_ n pa dd lv (hp_ ch lv H I x) x p else 0) 0 n.toNat
theorem hp_bd {ch lv : Int → Int} {H I x : Int} (H1 : 1 ≤ H) (I0 : 0 ≤ I) : 0 ≤ hp_ ch lv H I x ∧ hp_ ch lv H I x ≤ I := by
  unfold hp_
  rw [Int.tdiv_eq_ediv_of_nonneg I0, Int.tmod_eq_emod_of_nonneg I0]
  have h1 : 0 ≤ I / H := Int.ediv_nonneg I0 (by omega)
  have h2 := Int.mul_ediv_add_emod I H
  have h3 := Int.emod_nonneg I (show H ≠ 0 by omega)
  have h4 : 1 * (I / H) ≤ H * (I / H) := Int.mul_le_mul_of_nonneg_right H1 h1
  have h5 : 0 ≤ sumI (fun j => if ¬ ch j = 0 ∧ 0 < lv j then (1 : Int) else 0) 0 x.toNat := sumI_nonneg _ _ (fun i _ _ => by split <;> omega)
  split <;> omega
/-- who stands in the stock of x: from x on, one behind another -/
def sk_ (pa dd : Int → Int) (x : Int) : Nat → Int → (Int → Int) → Int → Int
  | 0, _, S => S
  | m + 1, p, S => sk_ pa dd x m (p + 1) (if x ≤ pa p ∧ S (pa p) = 1 ∧ ¬ dd (pa p) = 0 then fun y => if y = p then 1 else S y else S)
/-- the k-th of m from p on of which C holds, n before it; -1 where there is none -/
noncomputable def kt_ (C : Int → Prop) : Nat → Int → Int → Int → Int
  | 0, _, _, _ => -1
  | m + 1, p, n, k => @ite _ (C p) (Classical.propDecidable _) (if n = k then p else kt_ C m (p + 1) (n + 1) k) (kt_ C m (p + 1) n k)
theorem kt_t {C : Int → Prop} {m : Nat} {p n k : Int} (h : C p) (e : n = k) : kt_ C (m + 1) p n k = p := by
  rw [kt_, if_pos h, if_pos e]
theorem kt_s {C : Int → Prop} {m : Nat} {p n k : Int} (h : C p) (e : ¬ n = k) : kt_ C (m + 1) p n k = kt_ C m (p + 1) (n + 1) k := by
  rw [kt_, if_pos h, if_neg e]
theorem kt_f {C : Int → Prop} {m : Nat} {p n k : Int} (h : ¬ C p) : kt_ C (m + 1) p n k = kt_ C m (p + 1) n k := by
  rw [kt_, if_neg h]
theorem kt_congr {C C' : Int → Prop} : ∀ (m : Nat) (p n k : Int), (∀ y : Int, p ≤ y → y < p + m → (C y ↔ C' y)) → kt_ C m p n k = kt_ C' m p n k
  | 0, _, _, _, _ => rfl
  | m + 1, p, n, k, h => by
    have h0 := h p (Int.le_refl _) (by omega)
    have ih := fun n => kt_congr m (p + 1) n k (fun y y0 y1 => h y (by omega) (by omega))
    by_cases c : C p
    · by_cases e : n = k
      · rw [kt_t c e, kt_t (h0.mp c) e]
      · rw [kt_s c e, kt_s (h0.mp c) e, ih]
    · rw [kt_f c, kt_f (fun z => c (h0.mpr z)), ih]
/-- an int that wraps around is 0 where it is 0 but for 2^32 -/
theorem w32_0 {x : Int} : Int32.ofInt x = 0 ↔ x % 4294967296 = 0 := by
  have e : (Int32.ofInt x).toInt = Int.bmod x 4294967296 := Int32.toInt_ofInt
  rw [← Int32.toInt_inj, e, Int32.toInt_zero]
  have h1 : Int.bmod x 4294967296 % 4294967296 = x % 4294967296 := Int.bmod_emod
  have h2 := Int.le_bmod (x := x) (m := 4294967296) (by decide)
  have h3 := Int.bmod_lt (x := x) (m := 4294967296) (by decide)
  generalize Int.bmod x 4294967296 = b at *
  omega
