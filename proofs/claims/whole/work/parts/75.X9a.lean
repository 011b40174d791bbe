/-! THE REFERENCE: its cells show the picture -/
/-- where the reference keeps a number of the facts -/
def pm_ (k : Int) : Int := if k < 32 then 8 * (k % 4) + k / 4 else k
theorem pm_t {t v j : Int} (v0 : 0 ≤ v) (v1 : v < 4) (t1 : t < 8) (e : 8 * v + t = j) : pm_ (0 + 4 * t + v) = j := by
  unfold pm_
  rw [if_pos (by omega)]
  omega
theorem pm_h {k : Int} (h : 32 ≤ k) : pm_ k = k := if_neg (by omega)
theorem pm_bd {k : Int} (k0 : 0 ≤ k) (k1 : k < 61) : 0 ≤ pm_ k ∧ pm_ k < 61 := by
  unfold pm_
  split <;> omega
/-- a name as a number, five bits a letter -/
def ec_ (f : Int → Int) : Nat → Int
  | 0 => 0
  | n + 1 => ec_ f n * 32 + (f n - 96)
def lq_ (f : Int → Int) (n : Nat) : Prop := ∀ j : Int, 0 ≤ j → j < n → 97 ≤ f j ∧ f j ≤ 122
theorem lq_s {f : Int → Int} {n : Nat} (h : lq_ f (n + 1)) : lq_ f n := fun j a b => h j a (by omega)
theorem ec_nn {f : Int → Int} : ∀ n : Nat, lq_ f n → 0 ≤ ec_ f n ∧ (0 < n → 0 < ec_ f n)
  | 0, _ => ⟨Int.le_refl _, fun h => absurd h (by decide)⟩
  | n + 1, h => by
    have ih := ec_nn n (lq_s h)
    have d := h n (by omega) (by omega)
    rw [ec_]
    omega
theorem ec_sh {f : Int → Int} {n : Nat} (h : lq_ f (n + 1)) : ec_ f (n + 1) / 32 = ec_ f n ∧ ec_ f (n + 1) % 32 = f n - 96 := by
  have ih := ec_nn n (lq_s h)
  have d := h n (by omega) (by omega)
  rw [ec_]
  omega
theorem ec_in {f : Int → Int} {n : Nat} (h : lq_ f n) (h6 : n ≤ 6) : inI (ec_ f n) := by
  have b : ∀ n : Nat, lq_ f n → ec_ f n < 32 ^ n := by
    intro n
    induction n with
    | zero => intro _; exact Int.zero_lt_one
    | succ n ih =>
      intro h
      have d := h n (by omega) (by omega)
      have i := ih (lq_s h)
      rw [ec_, Int.pow_succ]
      omega
  have b1 := b n h
  have b2 := (ec_nn n h).1
  have b3 : ∀ n : Nat, n < 7 → (32 : Int) ^ n ≤ 1073741824 := by decide
  have b4 := b3 n (by omega)
  exact ⟨by omega, by omega⟩
theorem ec_congr {f g : Int → Int} : ∀ n : Nat, (∀ j : Int, 0 ≤ j → j < n → f j = g j) → ec_ f n = ec_ g n
  | 0, _ => rfl
  | n + 1, h => by rw [ec_, ec_, ec_congr n (fun j a b => h j a (by omega)), h n (by omega) (by omega)]
/-- two names are one just where their numbers are -/
theorem ec_inj {f g : Int → Int} : ∀ n m : Nat, lq_ f n → lq_ g m → ec_ f n = ec_ g m → n = m ∧ ∀ j : Int, 0 ≤ j → j < n → f j = g j
  | 0, 0, _, _, _ => ⟨rfl, fun j a b => by omega⟩
  | 0, m + 1, _, h2, e => by
    have := (ec_nn (m + 1) h2).2 (by omega)
    rw [← e] at this
    exact absurd this (by rw [ec_]; decide)
  | n + 1, 0, h1, _, e => by
    have := (ec_nn (n + 1) h1).2 (by omega)
    rw [e] at this
    exact absurd this (by rw [ec_]; decide)
  | n + 1, m + 1, h1, h2, e => by
    have a := ec_sh h1
    have b := ec_sh h2
    rw [e] at a
    have i := ec_inj n m (lq_s h1) (lq_s h2) (a.1.symm.trans b.1)
    refine ⟨by rw [i.1], fun j j0 j1 => ?_⟩
    rcases (by omega : j < n ∨ j = n) with q | q
    · exact i.2 j j0 q
    · rw [q]
      have c : f n - 96 = g m - 96 := a.2.symm.trans b.2
      rw [← i.1] at c
      omega
def MR_ (h z : PH) : Prop := G h ∧ (h 196 5 = z 0 0 ∧ h 196 6 = z 0 1 ∧ h 196 7 = z 0 2) ∧ (∀ k : Int, 0 ≤ k → k < 61 → h (196 + 1) k = z 1 (pm_ k)) ∧
  (h 196 4 = z 53 0 ∧ ∀ j k : Int, 0 ≤ j → j < z 53 0 → 0 ≤ k → k < 61 → h (196 + 3) (61 * j + k) = z (60 + j) (pm_ k)) ∧
  (∀ t : Int, 0 ≤ t → t < z 0 0 → h (196 + 4) t = ec_ (z (20 + t)) (z 10 t).toNat) ∧ (∀ p : Int, 0 ≤ p → p < z 0 1 → h (196 + 5) p = ec_ (z (30 + p)) (z 11 p).toNat) ∧
  (∀ p : Int, 0 ≤ p → p < z 0 1 → h (196 + 6) p = z 2 p ∧ h (196 + 7) p = z 3 p) ∧ (∀ g v : Int, 0 ≤ g → g < z 0 2 → 0 ≤ v → v < 5 → h (196 + 8) (5 * g + v) = z (5 + v) g) ∧
  (h 196 14 = z 50 0 ∧ ∀ k : Int, 0 ≤ k → k < 400 → h (196 + 9) k = z 51 k) ∧ h 196 17 = z 52 0 ∧ (h 196 44 = z 54 0 ∧ ∀ k : Int, 0 ≤ k → k < z 54 0 → h (196 + 27) k = z 55 k) ∧ ZI z ∧ ZB z
section MRA
variable {h h' z : PH}
theorem mr_i (M : MR_ h z) : ZI z := M.2.2.2.2.2.2.2.2.2.2.2.1
theorem mr_b (M : MR_ h z) : ZB z := M.2.2.2.2.2.2.2.2.2.2.2.2
theorem mr_f (M : MR_ h z) : ∀ k : Int, 0 ≤ k → k < 61 → h (196 + 1) k = z 1 (pm_ k) := M.2.2.1
theorem mr_c (M : MR_ h z) : ∀ p : Int, 0 ≤ p → p < z 0 1 → h (196 + 6) p = z 2 p ∧ h (196 + 7) p = z 3 p := M.2.2.2.2.2.2.1
theorem mr_k (M : MR_ h z) : ∀ g v : Int, 0 ≤ g → g < z 0 2 → 0 ≤ v → v < 5 → h (196 + 8) (5 * g + v) = z (5 + v) g := M.2.2.2.2.2.2.2.1
/-- which cells hold the picture -/
def pc_ (x k : Int) : Prop := x = 196 + 1 ∨ (196 + 3 ≤ x ∧ x ≤ 196 + 9) ∨ x = 196 + 27 ∨ (x = 196 ∧ ((4 ≤ k ∧ k ≤ 7) ∨ k = 14 ∨ k = 17 ∨ k = 44))
theorem mr_to (M : MR_ h z) (hG : G h') (f : ∀ x k : Int, pc_ x k → h' x k = h x k) : MR_ h' z := by
  obtain ⟨-, ⟨a1, a2, a3⟩, a4, ⟨a5, a6⟩, a7, a8, a9, b1, ⟨b2, b3⟩, b4, ⟨b5, b6⟩, b7, b8⟩ := M
  have F : ∀ x k : Int, (x = 196 + 1 ∨ (196 + 3 ≤ x ∧ x ≤ 196 + 9) ∨ x = 196 + 27 ∨ (x = 196 ∧ ((4 ≤ k ∧ k ≤ 7) ∨ k = 14 ∨ k = 17 ∨ k = 44))) → h' x k = h x k := f
  refine ⟨hG, ⟨by rw [F _ _ (by omega)]; exact a1, by rw [F _ _ (by omega)]; exact a2, by rw [F _ _ (by omega)]; exact a3⟩, fun k p q => by rw [F _ _ (by omega)]; exact a4 k p q, ⟨by rw [F _ _ (by omega)]; exact a5, fun j k p q r s => by rw [F _ _ (by omega)]; exact a6 j k p q r s⟩, fun t p q => by rw [F _ _ (by omega)]; exact a7 t p q, fun t p q => by rw [F _ _ (by omega)]; exact a8 t p q, fun p a b => by rw [F _ _ (by omega), F _ _ (by omega)]; exact a9 p a b, fun g v p q r s => by rw [F _ _ (by omega)]; exact b1 g v p q r s, ⟨by rw [F _ _ (by omega)]; exact b2, fun k p q => by rw [F _ _ (by omega)]; exact b3 k p q⟩, by rw [F _ _ (by omega)]; exact b4, ⟨by rw [F _ _ (by omega)]; exact b5, fun k p q => by rw [F _ _ (by omega)]; exact b6 k p q⟩, b7, b8⟩
/-- the class's cells are as they were -/
def FM (h h' : PH) : Prop := ∀ x y : Int, (x < 196 ∨ 224 ≤ x) → h' x y = h x y
theorem FM.rf (h : PH) : FM h h := fun _ _ _ => rfl
theorem FM.tr {h1 h2 : PH} (a : FM h h1) (b : FM h1 h2) : FM h h2 := fun x y hx => (b x y hx).trans (a x y hx)
theorem b01_congr {c c' : Prop} (e : c ↔ c') : b01 c = b01 c' := by
  by_cases q : c
  · rw [b01_t q, b01_t (e.mp q)]
  · rw [b01_f q, b01_f (fun w => q (e.mpr w))]
end MRA
section X9A
variable {d bc bs : Nat} {Q : PQ} {h z : PH}
set_option maxRecDepth 100000 in
set_option maxHeartbeats 4000000 in
theorem c_X9_isIn {x lo hi : Int} (hx : inL x) (hl : inL lo) (hh : inL hi) (k : Q.1 (some (0, b01 (lo ≤ x ∧ x ≤ hi))) nN h) : Cl_ yX9_isIn MX9_isIn d bc bs [(1, x), (1, lo), (1, hi)] nN h Q := by
  refine s_enter pn_X9 rfl (Nat.le_of_ble_eq_true rfl) (L := [(1, _), (9, 0), (1, _), (9, 0), (1, _), (9, 0)]) rfl ?_
  refine s_lload_n dX9_isIn_0 rfl ?_
  refine s_lload_n dX9_isIn_1 rfl ?_
  refine s_lcmp_lt (tgt := 17) dX9_isIn_2 dX9_isIn_3 (by decide) (by first | assumption | exact inI_L (by first | exact hG.2 _ _ | exact b01_in _ | assumption | exact ⟨by omega, by omega⟩) | exact ⟨by omega, by omega⟩) (by first | assumption | exact inI_L (by first | exact hG.2 _ _ | exact b01_in _ | assumption | exact ⟨by omega, by omega⟩) | exact ⟨by omega, by omega⟩) (fun c1 => ?_) (fun c1 => ?_)
  · refine s_iconst dX9_isIn_17 ?_
    refine s_zreturn dX9_isIn_18 rfl (by first | exact Or.inl rfl | exact Or.inr rfl | exact b01_or _) ?_
    first | (rw [b01_t (c := lo ≤ x ∧ x ≤ hi) (by omega)] at k; exact k) | (rw [b01_f (c := lo ≤ x ∧ x ≤ hi) (by omega)] at k; exact k)
  · refine s_lload_n dX9_isIn_6 rfl ?_
    refine s_lload dX9_isIn_7 rfl ?_
    refine s_lcmp_gt (tgt := 17) dX9_isIn_9 dX9_isIn_10 (by decide) (by first | assumption | exact inI_L (by first | exact hG.2 _ _ | exact b01_in _ | assumption | exact ⟨by omega, by omega⟩) | exact ⟨by omega, by omega⟩) (by first | assumption | exact inI_L (by first | exact hG.2 _ _ | exact b01_in _ | assumption | exact ⟨by omega, by omega⟩) | exact ⟨by omega, by omega⟩) (fun c2 => ?_) (fun c2 => ?_)
    · refine s_iconst dX9_isIn_17 ?_
      refine s_zreturn dX9_isIn_18 rfl (by first | exact Or.inl rfl | exact Or.inr rfl | exact b01_or _) ?_
      first | (rw [b01_t (c := lo ≤ x ∧ x ≤ hi) (by omega)] at k; exact k) | (rw [b01_f (c := lo ≤ x ∧ x ≤ hi) (by omega)] at k; exact k)
    · refine s_iconst dX9_isIn_13 ?_
      refine s_goto (tgt := 18) dX9_isIn_14 (by decide) ?_
      refine s_zreturn dX9_isIn_18 rfl (by first | exact Or.inl rfl | exact Or.inr rfl | exact b01_or _) ?_
      first | (rw [b01_t (c := lo ≤ x ∧ x ≤ hi) (by omega)] at k; exact k) | (rw [b01_f (c := lo ≤ x ∧ x ≤ hi) (by omega)] at k; exact k)
set_option maxRecDepth 100000 in
set_option maxHeartbeats 4000000 in
theorem c_X9_isThing {t : Int} (hd : 1 ≤ d) (M : MR_ h z) (ht : inI t) (k : Q.1 (some (0, b01 (0 ≤ t ∧ t < z 0 0))) nN h) : Cl_ yX9_isThing MX9_isThing d bc bs [(2, 196), (0, t)] nN h Q := by
  refine s_enter pn_X9 rfl (Nat.le_of_ble_eq_true rfl) (L := [(2, _), (0, _)]) rfl ?_
  have hG := M.1
  have I := mr_i M
  have hT := I.2.1
  have hP := I.2.2.1
  have hN := I.2.2.2.1
  have nn := M.2.1
  have hl := inI_L ht
  refine s_iload_n dX9_isThing_0 rfl ?_
  refine s_i2l dX9_isThing_1 (by first | exact hG.2 _ _ | exact b01_in _ | assumption | exact ⟨by omega, by omega⟩) ?_
  refine s_lconstz (z := 0) dX9_isThing_2 rfl ?_
  refine s_aload_n dX9_isThing_3 rfl ?_
  refine s_geti dX9_isThing_4 fl_X9_278 kl_7 (by decide) rfl io_196 (z := 5) rfl ?_
  refine s_iconst dX9_isThing_7 ?_
  refine s_isub dX9_isThing_8 ?_
  refine s_i2l dX9_isThing_9 (by first | exact hG.2 _ _ | exact b01_in _ | assumption | exact ⟨by omega, by omega⟩) ?_
  refine s_callS (d' := d - 1) (bc' := 0) (bs' := 0) (as := [_, _, _]) dX9_isThing_10 sf_X9_143 (dd_ (by omega) (by decide)) ⟨Nat.zero_le _, Nat.zero_le _⟩ rfl rfl (Nat.le_of_ble_eq_true rfl) ?_
  refine c_X9_isIn (by first | assumption | exact inI_L (by assumption) | exact ⟨by omega, by omega⟩) ⟨by omega, by omega⟩ ⟨by omega, by omega⟩ ?_
  refine s_zreturn dX9_isThing_13 rfl (b01_or _) ?_
  rw [b01_congr (c' := 0 ≤ t ∧ t < z 0 0) (by omega)]
  exact k
set_option maxRecDepth 100000 in
set_option maxHeartbeats 4000000 in
theorem c_X9_isPerson {t : Int} (hd : 1 ≤ d) (M : MR_ h z) (ht : inI t) (k : Q.1 (some (0, b01 (0 ≤ t ∧ t < z 0 1))) nN h) : Cl_ yX9_isPerson MX9_isPerson d bc bs [(2, 196), (0, t)] nN h Q := by
  refine s_enter pn_X9 rfl (Nat.le_of_ble_eq_true rfl) (L := [(2, _), (0, _)]) rfl ?_
  have hG := M.1
  have I := mr_i M
  have hT := I.2.1
  have hP := I.2.2.1
  have hN := I.2.2.2.1
  have nn := M.2.1
  have hl := inI_L ht
  refine s_iload_n dX9_isPerson_0 rfl ?_
  refine s_i2l dX9_isPerson_1 (by first | exact hG.2 _ _ | exact b01_in _ | assumption | exact ⟨by omega, by omega⟩) ?_
  refine s_lconstz (z := 0) dX9_isPerson_2 rfl ?_
  refine s_aload_n dX9_isPerson_3 rfl ?_
  refine s_geti dX9_isPerson_4 fl_X9_281 kl_7 (by decide) rfl io_196 (z := 6) rfl ?_
  refine s_iconst dX9_isPerson_7 ?_
  refine s_isub dX9_isPerson_8 ?_
  refine s_i2l dX9_isPerson_9 (by first | exact hG.2 _ _ | exact b01_in _ | assumption | exact ⟨by omega, by omega⟩) ?_
  refine s_callS (d' := d - 1) (bc' := 0) (bs' := 0) (as := [_, _, _]) dX9_isPerson_10 sf_X9_143 (dd_ (by omega) (by decide)) ⟨Nat.zero_le _, Nat.zero_le _⟩ rfl rfl (Nat.le_of_ble_eq_true rfl) ?_
  refine c_X9_isIn (by first | assumption | exact inI_L (by assumption) | exact ⟨by omega, by omega⟩) ⟨by omega, by omega⟩ ⟨by omega, by omega⟩ ?_
  refine s_zreturn dX9_isPerson_13 rfl (b01_or _) ?_
  rw [b01_congr (c' := 0 ≤ t ∧ t < z 0 1) (by omega)]
  exact k
set_option maxRecDepth 100000 in
set_option maxHeartbeats 4000000 in
theorem c_X9_isGift {t : Int} (hd : 1 ≤ d) (M : MR_ h z) (ht : inI t) (k : Q.1 (some (0, b01 (0 ≤ t ∧ t < z 0 2))) nN h) : Cl_ yX9_isGift MX9_isGift d bc bs [(2, 196), (0, t)] nN h Q := by
  refine s_enter pn_X9 rfl (Nat.le_of_ble_eq_true rfl) (L := [(2, _), (0, _)]) rfl ?_
  have hG := M.1
  have I := mr_i M
  have hT := I.2.1
  have hP := I.2.2.1
  have hN := I.2.2.2.1
  have nn := M.2.1
  have hl := inI_L ht
  refine s_iload_n dX9_isGift_0 rfl ?_
  refine s_i2l dX9_isGift_1 (by first | exact hG.2 _ _ | exact b01_in _ | assumption | exact ⟨by omega, by omega⟩) ?_
  refine s_lconstz (z := 0) dX9_isGift_2 rfl ?_
  refine s_aload_n dX9_isGift_3 rfl ?_
  refine s_geti dX9_isGift_4 fl_X9_275 kl_7 (by decide) rfl io_196 (z := 7) rfl ?_
  refine s_iconst dX9_isGift_7 ?_
  refine s_isub dX9_isGift_8 ?_
  refine s_i2l dX9_isGift_9 (by first | exact hG.2 _ _ | exact b01_in _ | assumption | exact ⟨by omega, by omega⟩) ?_
  refine s_callS (d' := d - 1) (bc' := 0) (bs' := 0) (as := [_, _, _]) dX9_isGift_10 sf_X9_143 (dd_ (by omega) (by decide)) ⟨Nat.zero_le _, Nat.zero_le _⟩ rfl rfl (Nat.le_of_ble_eq_true rfl) ?_
  refine c_X9_isIn (by first | assumption | exact inI_L (by assumption) | exact ⟨by omega, by omega⟩) ⟨by omega, by omega⟩ ⟨by omega, by omega⟩ ?_
  refine s_zreturn dX9_isGift_13 rfl (b01_or _) ?_
  rw [b01_congr (c' := 0 ≤ t ∧ t < z 0 2) (by omega)]
  exact k
set_option maxRecDepth 100000 in
set_option maxHeartbeats 4000000 in
theorem c_X9_isClass {t : Int} (hd : 1 ≤ d) (ht : inI t) (k : Q.1 (some (0, b01 (0 ≤ t ∧ t ≤ 6))) nN h) : Cl_ yX9_isClass MX9_isClass d bc bs [(0, t)] nN h Q := by
  refine s_enter pn_X9 rfl (Nat.le_of_ble_eq_true rfl) (L := [(0, _)]) rfl ?_
  have hl := inI_L ht
  refine s_iload_n dX9_isClass_0 rfl ?_
  refine s_i2l dX9_isClass_1 (by first | exact hG.2 _ _ | exact b01_in _ | assumption | exact ⟨by omega, by omega⟩) ?_
  refine s_lconstz (z := 0) dX9_isClass_2 rfl ?_
  refine s_ldc2 dX9_isClass_3 kc_X9_196 ?_
  refine s_callS (d' := d - 1) (bc' := 0) (bs' := 0) (as := [_, _, _]) dX9_isClass_6 sf_X9_143 (dd_ (by omega) (by decide)) ⟨Nat.zero_le _, Nat.zero_le _⟩ rfl rfl (Nat.le_of_ble_eq_true rfl) ?_
  refine c_X9_isIn hl inL0 ⟨by decide, by decide⟩ ?_
  exact s_zreturn dX9_isClass_9 rfl (b01_or _) k
set_option maxRecDepth 100000 in
set_option maxHeartbeats 4000000 in
theorem c_X9_isEarly {t : Int} (hd : 1 ≤ d) (ht : inI t) (k : Q.1 (some (0, b01 (0 ≤ t ∧ t ≤ 4))) nN h) : Cl_ yX9_isEarly MX9_isEarly d bc bs [(0, t)] nN h Q := by
  refine s_enter pn_X9 rfl (Nat.le_of_ble_eq_true rfl) (L := [(0, _)]) rfl ?_
  have hl := inI_L ht
  refine s_iload_n dX9_isEarly_0 rfl ?_
  refine s_i2l dX9_isEarly_1 (by first | exact hG.2 _ _ | exact b01_in _ | assumption | exact ⟨by omega, by omega⟩) ?_
  refine s_lconstz (z := 0) dX9_isEarly_2 rfl ?_
  refine s_ldc2 dX9_isEarly_3 kc_X9_303 ?_
  refine s_callS (d' := d - 1) (bc' := 0) (bs' := 0) (as := [_, _, _]) dX9_isEarly_6 sf_X9_143 (dd_ (by omega) (by decide)) ⟨Nat.zero_le _, Nat.zero_le _⟩ rfl rfl (Nat.le_of_ble_eq_true rfl) ?_
  refine c_X9_isIn hl inL0 ⟨by decide, by decide⟩ ?_
  exact s_zreturn dX9_isEarly_9 rfl (b01_or _) k
set_option maxRecDepth 100000 in
set_option maxHeartbeats 4000000 in
theorem c_X9_thrown {t : Int} (e : h 196 0 = t) (k : Q.1 (some (0, t)) nN h) : Cl_ yX9_thrown MX9_thrown d bc bs [(2, 196)] nN h Q := by
  refine s_enter pn_X9 rfl (Nat.le_of_ble_eq_true rfl) (L := [(2, _)]) rfl ?_
  refine s_aload_n dX9_thrown_0 rfl ?_
  refine s_geti dX9_thrown_1 fl_X9_98 kl_7 (by decide) rfl io_196 (z := 0) rfl ?_
  rw [e]
  exact s_ireturn dX9_thrown_4 rfl k
set_option maxRecDepth 100000 in
set_option maxHeartbeats 4000000 in
theorem c_X9_ofThing {t v j : Int} (M : MR_ h z) (t0 : 0 ≤ t) (t1 : t < 8) (v0 : 0 ≤ v) (v1 : v < 4) (e : 8 * v + t = j) (k : Q.1 (some (0, z 1 j)) nN h) : Cl_ yX9_ofThing MX9_ofThing d bc bs [(2, 196), (0, t), (0, v)] nN h Q := by
  refine s_enter pn_X9 rfl (Nat.le_of_ble_eq_true rfl) (L := [(2, _), (0, _), (0, _)]) rfl ?_
  have hG := M.1
  refine s_aload_n dX9_ofThing_0 rfl ?_
  refine s_getr dX9_ofThing_1 fl_X9_7 kl_7 (by decide) rfl io_196 (z := 1) rfl (rf_7_1 hG.1 io_196) (rk_7_1 io_196).1 ?_
  refine s_iconst dX9_ofThing_4 ?_
  refine s_iconst dX9_ofThing_5 ?_
  refine s_iload_n dX9_ofThing_6 rfl ?_
  refine s_imul dX9_ofThing_7 ?_
  refine s_iadd dX9_ofThing_8 ?_
  refine s_iload_n dX9_ofThing_9 rfl ?_
  refine s_iadd dX9_ofThing_10 ?_
  refine s_iaload dX9_ofThing_11 (rk_7_1 io_196) (by omega) (by omega) ?_
  rw [mr_f M _ (by omega) (by omega), pm_t v0 v1 t1 e]
  exact s_ireturn dX9_ofThing_12 rfl k
set_option maxRecDepth 100000 in
set_option maxHeartbeats 4000000 in
theorem c_X9_bringsOf {t : Int} (hd : 1 ≤ d) (M : MR_ h z) (t0 : 0 ≤ t) (t1 : t < 8) (k : Q.1 (some (0, zbr z t)) nN h) : Cl_ yX9_bringsOf MX9_bringsOf d bc bs [(2, 196), (0, t)] nN h Q := by
  refine s_enter pn_X9 rfl (Nat.le_of_ble_eq_true rfl) (L := [(2, _), (0, _)]) rfl ?_
  have b := (mr_i M).1.1 t t0 t1
  refine s_aload_n dX9_bringsOf_0 rfl ?_
  refine s_iload_n dX9_bringsOf_1 rfl ?_
  refine s_iconst dX9_bringsOf_2 ?_
  refine s_callV (d' := d - 1) (bc' := 0) (bs' := 0) (as := [_, _]) dX9_bringsOf_3 vf_X9_300 (dd_ (by omega) (by decide)) ⟨Nat.zero_le _, Nat.zero_le _⟩ rfl rfl (Nat.le_of_ble_eq_true rfl) kl_7 rfl io_196 ?_
  refine c_X9_ofThing M (by omega) (by omega) (by omega) (by omega) (j := 8 + t) (by omega) ?_
  refine s_if_ne (tgt := 18) dX9_bringsOf_6 (by decide) (by first | exact hG.2 _ _ | exact b01_in _ | assumption | exact ⟨by omega, by omega⟩) (fun c1 => ?_) (fun c1 => ?_)
  · refine s_aload_n dX9_bringsOf_18 rfl ?_
    refine s_iload_n dX9_bringsOf_19 rfl ?_
    refine s_iconst dX9_bringsOf_20 ?_
    refine s_callV (d' := d - 1) (bc' := 0) (bs' := 0) (as := [_, _]) dX9_bringsOf_21 vf_X9_300 (dd_ (by omega) (by decide)) ⟨Nat.zero_le _, Nat.zero_le _⟩ rfl rfl (Nat.le_of_ble_eq_true rfl) kl_7 rfl io_196 ?_
    refine c_X9_ofThing M (by omega) (by omega) (by omega) (by omega) (j := 24 + t) (by omega) ?_
    exact s_ireturn dX9_bringsOf_24 rfl (by unfold zbr at k; first | (rw [if_pos (by omega)] at k; exact k) | (rw [if_neg (by omega)] at k; exact k))
  · refine s_aload_n dX9_bringsOf_9 rfl ?_
    refine s_iload_n dX9_bringsOf_10 rfl ?_
    refine s_iconst dX9_bringsOf_11 ?_
    refine s_callV (d' := d - 1) (bc' := 0) (bs' := 0) (as := [_, _]) dX9_bringsOf_12 vf_X9_300 (dd_ (by omega) (by decide)) ⟨Nat.zero_le _, Nat.zero_le _⟩ rfl rfl (Nat.le_of_ble_eq_true rfl) kl_7 rfl io_196 ?_
    refine c_X9_ofThing M (by omega) (by omega) (by omega) (by omega) (j := t) (by omega) ?_
    refine s_goto (tgt := 24) dX9_bringsOf_15 (by decide) ?_
    exact s_ireturn dX9_bringsOf_24 rfl (by unfold zbr at k; first | (rw [if_pos (by omega)] at k; exact k) | (rw [if_neg (by omega)] at k; exact k))
set_option maxRecDepth 100000 in
set_option maxHeartbeats 4000000 in
theorem c_X9_isDead {p : Int} (M : MR_ h z) (p0 : 0 ≤ p) (p1 : p < 12) (k : Q.1 (some (0, b01 (¬ zdd z p = 0))) nN h) : Cl_ yX9_isDead MX9_isDead d bc bs [(2, 196), (0, p)] nN h Q := by
  refine s_enter pn_X9 rfl (Nat.le_of_ble_eq_true rfl) (L := [(2, _), (0, _)]) rfl ?_
  have hG := M.1
  have b := ((mr_i M).1.2.1 p p0 p1).1
  have e := mr_f M (32 + p) (by omega) (by omega)
  rw [pm_h (by omega)] at e
  have ed : zdd z p = z 1 (32 + p) := rfl
  refine s_aload_n dX9_isDead_0 rfl ?_
  refine s_getr dX9_isDead_1 fl_X9_7 kl_7 (by decide) rfl io_196 (z := 1) rfl (rf_7_1 hG.1 io_196) (rk_7_1 io_196).1 ?_
  refine s_bipush dX9_isDead_4 (by decide) ?_
  refine s_iload_n dX9_isDead_6 rfl ?_
  refine s_iadd dX9_isDead_7 ?_
  refine s_iaload dX9_isDead_8 (rk_7_1 io_196) (by omega) (by omega) ?_
  refine s_iconst dX9_isDead_9 ?_
  refine s_icmp_ne (tgt := 17) dX9_isDead_10 (by decide) (by first | exact hG.2 _ _ | exact b01_in _ | assumption | exact ⟨by omega, by omega⟩) (by first | exact hG.2 _ _ | exact b01_in _ | assumption | exact ⟨by omega, by omega⟩) (fun c1 => ?_) (fun c1 => ?_)
  · refine s_iconst dX9_isDead_17 ?_
    refine s_zreturn dX9_isDead_18 rfl (by first | exact Or.inl rfl | exact Or.inr rfl | exact b01_or _) ?_
    first | (rw [b01_t (c := ¬ zdd z p = 0) (by omega)] at k; exact k) | (rw [b01_f (c := ¬ zdd z p = 0) (by omega)] at k; exact k)
  · refine s_iconst dX9_isDead_13 ?_
    refine s_goto (tgt := 18) dX9_isDead_14 (by decide) ?_
    refine s_zreturn dX9_isDead_18 rfl (by first | exact Or.inl rfl | exact Or.inr rfl | exact b01_or _) ?_
    first | (rw [b01_t (c := ¬ zdd z p = 0) (by omega)] at k; exact k) | (rw [b01_f (c := ¬ zdd z p = 0) (by omega)] at k; exact k)
set_option maxRecDepth 100000 in
set_option maxHeartbeats 4000000 in
theorem c_X9_of {g v j : Int} (M : MR_ h z) (g0 : 0 ≤ g) (g1 : g < z 0 2) (v0 : 0 ≤ v) (v1 : v < 5) (e : 5 + v = j) (k : Q.1 (some (0, z j g)) nN h) : Cl_ yX9_of MX9_of d bc bs [(2, 196), (0, g), (0, v)] nN h Q := by
  refine s_enter pn_X9 rfl (Nat.le_of_ble_eq_true rfl) (L := [(2, _), (0, _), (0, _)]) rfl ?_
  have hG := M.1
  have hN := (mr_i M).2.2.2.1
  subst e
  refine s_aload_n dX9_of_0 rfl ?_
  refine s_getr dX9_of_1 fl_X9_32 kl_7 (by decide) rfl io_196 (z := 12) rfl (rf_7_12 hG.1 io_196) (rk_7_12 io_196).1 ?_
  refine s_iconst dX9_of_4 ?_
  refine s_iload_n dX9_of_5 rfl ?_
  refine s_imul dX9_of_6 ?_
  refine s_iload_n dX9_of_7 rfl ?_
  refine s_iadd dX9_of_8 ?_
  refine s_iaload dX9_of_9 (rk_7_12 io_196) (by omega) (by omega) ?_
  rw [mr_k M g v g0 g1 v0 v1]
  exact s_ireturn dX9_of_10 rfl k
set_option maxRecDepth 100000 in
set_option maxHeartbeats 4000000 in
theorem lp_X9_lettersOf {f : Int → Int} {x : Int} {n : Nat} (h6 : n ≤ 6) (k : Q.1 (some (0, n)) nN h) : ∀ (m : Nat) (i : Int), (0 ≤ i) → (i + m = n) → (lq_ f m) → S_ MX9_lettersOf d bc bs Q 4 [(0, x), (0, i), (0, ec_ f m)] [] nN h := by
  intro m
  induction m with
  | zero =>
    intro i i0 im hf
    have e0 : ec_ f 0 = 0 := rfl
    have ep := ec_nn _ hf
    have ei := ec_in hf (by omega)
    refine s_iload_n dX9_lettersOf_4 rfl ?_
    refine s_if_le (tgt := 18) dX9_lettersOf_5 (by decide) (by first | exact hG.2 _ _ | exact b01_in _ | assumption | exact ⟨by omega, by omega⟩) (fun c1 => ?_) (fun c1 => ?_)
    · refine s_iload_n dX9_lettersOf_18 rfl ?_
      rw [show i = (n : Int) by omega]
      exact s_ireturn dX9_lettersOf_19 rfl k
    · exact absurd c1 (by omega)
  | succ m ih =>
    intro i i0 im hf
    have e0 : ec_ f 0 = 0 := rfl
    have ep := ec_nn _ hf
    have ei := ec_in hf (by omega)
    refine s_iload_n dX9_lettersOf_4 rfl ?_
    refine s_if_le (tgt := 18) dX9_lettersOf_5 (by decide) (by first | exact hG.2 _ _ | exact b01_in _ | assumption | exact ⟨by omega, by omega⟩) (fun c1 => ?_) (fun c1 => ?_)
    · exact absurd c1 (by omega)
    · refine s_iinc dX9_lettersOf_8 rfl (by decide) rfl (L' := [_, _, _]) rfl ?_
      refine s_iload_n dX9_lettersOf_11 rfl ?_
      refine s_iconst dX9_lettersOf_12 ?_
      refine s_ishr dX9_lettersOf_13 (by first | exact hG.2 _ _ | exact b01_in _ | assumption | exact ⟨by omega, by omega⟩) (by omega) (by omega) ?_
      refine s_istore_n dX9_lettersOf_14 (by decide) rfl (L' := [_, _, _]) rfl ?_
      refine s_goto (tgt := 4) dX9_lettersOf_15 (by decide) ?_
      rw [show (ec_ f (m + 1) / 2 ^ (5 : Int).toNat) = ec_ f m from (ec_sh hf).1]
      exact ih (i + 1) (by omega) (by omega) (lq_s hf)
set_option maxRecDepth 100000 in
set_option maxHeartbeats 4000000 in
theorem c_X9_lettersOf {f : Int → Int} {n : Nat} (h6 : n ≤ 6) (hf : lq_ f n) (k : Q.1 (some (0, n)) nN h) : Cl_ yX9_lettersOf MX9_lettersOf d bc bs [(0, ec_ f n)] nN h Q := by
  refine s_enter pn_X9 rfl (Nat.le_of_ble_eq_true rfl) (L := [(0, _), (9, 0), (9, 0)]) rfl ?_
  refine s_iconst dX9_lettersOf_0 ?_
  refine s_istore_n dX9_lettersOf_1 (by decide) rfl (L' := [_, _, _]) rfl ?_
  refine s_iload_n dX9_lettersOf_2 rfl ?_
  refine s_istore_n dX9_lettersOf_3 (by decide) rfl (L' := [_, _, _]) rfl ?_
  exact lp_X9_lettersOf h6 k n 0 (Int.le_refl _) (by omega) hf
theorem ec_let {f : Int → Int} {n : Nat} {k : Int} (h6 : n ≤ 6) (hf : lq_ f n) (k0 : 0 ≤ k) (k1 : k < n) : 96 + ec_ f n / 2 ^ (5 * ((n : Int) - 1 - k)).toNat % 32 = f k := by
  have D := fun (j : Int) (a : 0 ≤ j) (b : j < n) => hf j a b
  rcases (by omega : n = 1 ∨ n = 2 ∨ n = 3 ∨ n = 4 ∨ n = 5 ∨ n = 6) with e | e | e | e | e | e
  · subst e
    have d0 := D ((0 : Nat) : Int) (by omega) (by omega)
    rcases (by omega : k = 0 ∨ False) with q | q
    · subst q
      rw [show (2 : Int) ^ (5 * (((1 : Nat) : Int) - 1 - 0)).toNat = 1 from by decide]
      show _ = f ((0 : Nat) : Int)
      simp only [ec_]
      omega
    · exact q.elim
  · subst e
    have d0 := D ((0 : Nat) : Int) (by omega) (by omega)
    have d1 := D ((1 : Nat) : Int) (by omega) (by omega)
    rcases (by omega : k = 0 ∨ k = 1) with q | q
    · subst q
      rw [show (2 : Int) ^ (5 * (((2 : Nat) : Int) - 1 - 0)).toNat = 32 from by decide]
      show _ = f ((0 : Nat) : Int)
      simp only [ec_]
      omega
    · subst q
      rw [show (2 : Int) ^ (5 * (((2 : Nat) : Int) - 1 - 1)).toNat = 1 from by decide]
      show _ = f ((1 : Nat) : Int)
      simp only [ec_]
      omega
  · subst e
    have d0 := D ((0 : Nat) : Int) (by omega) (by omega)
    have d1 := D ((1 : Nat) : Int) (by omega) (by omega)
    have d2 := D ((2 : Nat) : Int) (by omega) (by omega)
    rcases (by omega : k = 0 ∨ k = 1 ∨ k = 2) with q | q | q
    · subst q
      rw [show (2 : Int) ^ (5 * (((3 : Nat) : Int) - 1 - 0)).toNat = 1024 from by decide]
      show _ = f ((0 : Nat) : Int)
      simp only [ec_]
      omega
    · subst q
      rw [show (2 : Int) ^ (5 * (((3 : Nat) : Int) - 1 - 1)).toNat = 32 from by decide]
      show _ = f ((1 : Nat) : Int)
      simp only [ec_]
      omega
    · subst q
      rw [show (2 : Int) ^ (5 * (((3 : Nat) : Int) - 1 - 2)).toNat = 1 from by decide]
      show _ = f ((2 : Nat) : Int)
      simp only [ec_]
      omega
  · subst e
    have d0 := D ((0 : Nat) : Int) (by omega) (by omega)
    have d1 := D ((1 : Nat) : Int) (by omega) (by omega)
    have d2 := D ((2 : Nat) : Int) (by omega) (by omega)
    have d3 := D ((3 : Nat) : Int) (by omega) (by omega)
    rcases (by omega : k = 0 ∨ k = 1 ∨ k = 2 ∨ k = 3) with q | q | q | q
    · subst q
      rw [show (2 : Int) ^ (5 * (((4 : Nat) : Int) - 1 - 0)).toNat = 32768 from by decide]
      show _ = f ((0 : Nat) : Int)
      simp only [ec_]
      omega
    · subst q
      rw [show (2 : Int) ^ (5 * (((4 : Nat) : Int) - 1 - 1)).toNat = 1024 from by decide]
      show _ = f ((1 : Nat) : Int)
      simp only [ec_]
      omega
    · subst q
      rw [show (2 : Int) ^ (5 * (((4 : Nat) : Int) - 1 - 2)).toNat = 32 from by decide]
      show _ = f ((2 : Nat) : Int)
      simp only [ec_]
      omega
    · subst q
      rw [show (2 : Int) ^ (5 * (((4 : Nat) : Int) - 1 - 3)).toNat = 1 from by decide]
      show _ = f ((3 : Nat) : Int)
      simp only [ec_]
      omega
  · subst e
    have d0 := D ((0 : Nat) : Int) (by omega) (by omega)
    have d1 := D ((1 : Nat) : Int) (by omega) (by omega)
    have d2 := D ((2 : Nat) : Int) (by omega) (by omega)
    have d3 := D ((3 : Nat) : Int) (by omega) (by omega)
    have d4 := D ((4 : Nat) : Int) (by omega) (by omega)
    rcases (by omega : k = 0 ∨ k = 1 ∨ k = 2 ∨ k = 3 ∨ k = 4) with q | q | q | q | q
    · subst q
      rw [show (2 : Int) ^ (5 * (((5 : Nat) : Int) - 1 - 0)).toNat = 1048576 from by decide]
      show _ = f ((0 : Nat) : Int)
      simp only [ec_]
      omega
    · subst q
      rw [show (2 : Int) ^ (5 * (((5 : Nat) : Int) - 1 - 1)).toNat = 32768 from by decide]
      show _ = f ((1 : Nat) : Int)
      simp only [ec_]
      omega
    · subst q
      rw [show (2 : Int) ^ (5 * (((5 : Nat) : Int) - 1 - 2)).toNat = 1024 from by decide]
      show _ = f ((2 : Nat) : Int)
      simp only [ec_]
      omega
    · subst q
      rw [show (2 : Int) ^ (5 * (((5 : Nat) : Int) - 1 - 3)).toNat = 32 from by decide]
      show _ = f ((3 : Nat) : Int)
      simp only [ec_]
      omega
    · subst q
      rw [show (2 : Int) ^ (5 * (((5 : Nat) : Int) - 1 - 4)).toNat = 1 from by decide]
      show _ = f ((4 : Nat) : Int)
      simp only [ec_]
      omega
  · subst e
    have d0 := D ((0 : Nat) : Int) (by omega) (by omega)
    have d1 := D ((1 : Nat) : Int) (by omega) (by omega)
    have d2 := D ((2 : Nat) : Int) (by omega) (by omega)
    have d3 := D ((3 : Nat) : Int) (by omega) (by omega)
    have d4 := D ((4 : Nat) : Int) (by omega) (by omega)
    have d5 := D ((5 : Nat) : Int) (by omega) (by omega)
    rcases (by omega : k = 0 ∨ k = 1 ∨ k = 2 ∨ k = 3 ∨ k = 4 ∨ k = 5) with q | q | q | q | q | q
    · subst q
      rw [show (2 : Int) ^ (5 * (((6 : Nat) : Int) - 1 - 0)).toNat = 33554432 from by decide]
      show _ = f ((0 : Nat) : Int)
      simp only [ec_]
      omega
    · subst q
      rw [show (2 : Int) ^ (5 * (((6 : Nat) : Int) - 1 - 1)).toNat = 1048576 from by decide]
      show _ = f ((1 : Nat) : Int)
      simp only [ec_]
      omega
    · subst q
      rw [show (2 : Int) ^ (5 * (((6 : Nat) : Int) - 1 - 2)).toNat = 32768 from by decide]
      show _ = f ((2 : Nat) : Int)
      simp only [ec_]
      omega
    · subst q
      rw [show (2 : Int) ^ (5 * (((6 : Nat) : Int) - 1 - 3)).toNat = 1024 from by decide]
      show _ = f ((3 : Nat) : Int)
      simp only [ec_]
      omega
    · subst q
      rw [show (2 : Int) ^ (5 * (((6 : Nat) : Int) - 1 - 4)).toNat = 32 from by decide]
      show _ = f ((4 : Nat) : Int)
      simp only [ec_]
      omega
    · subst q
      rw [show (2 : Int) ^ (5 * (((6 : Nat) : Int) - 1 - 5)).toNat = 1 from by decide]
      show _ = f ((5 : Nat) : Int)
      simp only [ec_]
      omega

set_option maxRecDepth 100000 in
set_option maxHeartbeats 4000000 in
theorem c_X9_letter {f : Int → Int} {n : Nat} {t : Int} (hd : 1 ≤ d) (h6 : n ≤ 6) (hf : lq_ f n) (ht : inI t) (k : Q.1 (some (0, (if 0 ≤ t ∧ t < n then f t else -1))) nN h) : Cl_ yX9_letter MX9_letter d bc bs [(0, ec_ f n), (0, t)] nN h Q := by
  refine s_enter pn_X9 rfl (Nat.le_of_ble_eq_true rfl) (L := [(0, _), (0, _), (9, 0)]) rfl ?_
  have hl := inI_L ht
  have ei := ec_in hf h6
  refine s_iload_n dX9_letter_0 rfl ?_
  refine s_callS (d' := d - 1) (bc' := 0) (bs' := 0) (as := [_]) dX9_letter_1 sf_X9_287 (dd_ (by omega) (by decide)) ⟨Nat.zero_le _, Nat.zero_le _⟩ rfl rfl (Nat.le_of_ble_eq_true rfl) ?_
  refine c_X9_lettersOf h6 hf ?_
  refine s_istore_n dX9_letter_4 (by decide) rfl (L' := [_, _, _]) rfl ?_
  refine s_iload_n dX9_letter_5 rfl ?_
  refine s_i2l dX9_letter_6 (by first | exact hG.2 _ _ | exact b01_in _ | assumption | exact ⟨by omega, by omega⟩) ?_
  refine s_lconstz (z := 0) dX9_letter_7 rfl ?_
  refine s_iload_n dX9_letter_8 rfl ?_
  refine s_iconst dX9_letter_9 ?_
  refine s_isub dX9_letter_10 ?_
  refine s_i2l dX9_letter_11 (by first | exact hG.2 _ _ | exact b01_in _ | assumption | exact ⟨by omega, by omega⟩) ?_
  refine s_callS (d' := d - 1) (bc' := 0) (bs' := 0) (as := [_, _, _]) dX9_letter_12 sf_X9_143 (dd_ (by omega) (by decide)) ⟨Nat.zero_le _, Nat.zero_le _⟩ rfl rfl (Nat.le_of_ble_eq_true rfl) ?_
  refine c_X9_isIn hl inL0 ⟨by omega, by omega⟩ ?_
  refine s_if_eq (tgt := 36) dX9_letter_15 (by decide) (by first | exact hG.2 _ _ | exact b01_in _ | assumption | exact ⟨by omega, by omega⟩) (fun c1 => ?_) (fun c1 => ?_)
  · have c1 := b01_0.mp c1
    refine s_iconst dX9_letter_36 ?_
    first | (rw [if_pos (by omega)] at k; rw [ec_let h6 hf (by omega) (by omega)]; exact s_ireturn dX9_letter_37 rfl k) | (rw [if_neg (by omega)] at k; exact s_ireturn dX9_letter_37 rfl k)
  · have c1 := b01_n.mp c1
    refine s_bipush dX9_letter_18 (by decide) ?_
    refine s_iload_n dX9_letter_20 rfl ?_
    refine s_iconst dX9_letter_21 ?_
    refine s_iload_n dX9_letter_22 rfl ?_
    refine s_iconst dX9_letter_23 ?_
    refine s_isub dX9_letter_24 ?_
    refine s_iload_n dX9_letter_25 rfl ?_
    refine s_isub dX9_letter_26 ?_
    refine s_imul dX9_letter_27 ?_
    refine s_ishr dX9_letter_28 (by first | exact hG.2 _ _ | exact b01_in _ | assumption | exact ⟨by omega, by omega⟩) (by omega) (by omega) ?_
    refine s_bipush dX9_letter_29 (by decide) ?_
    refine s_iand 5 dX9_letter_31 (by decide) (by decide) (z := 32) (by decide) ?_
    refine s_iadd dX9_letter_32 ?_
    refine s_goto (tgt := 37) dX9_letter_33 (by decide) ?_
    first | (rw [if_pos (by omega)] at k; rw [ec_let h6 hf (by omega) (by omega)]; exact s_ireturn dX9_letter_37 rfl k) | (rw [if_neg (by omega)] at k; exact s_ireturn dX9_letter_37 rfl k)
end X9A
