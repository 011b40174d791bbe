/-! the reference: kin, stocks -/
section X9H
variable {h h1 z : PH}
/-- what is reckoned alone has changed -/
def SC_ (h h1 : PH) : Prop := ∀ x y : Int, ¬ (196 + 16 ≤ x ∧ x ≤ 196 + 25) → ¬ (x = 196 ∧ 33 ≤ y ∧ y ≤ 36) → h1 x y = h x y
theorem SC_.rf (h : PH) : SC_ h h := fun _ _ _ _ => rfl
theorem SC_.tr {h2 : PH} (a : SC_ h h1) (b : SC_ h1 h2) : SC_ h h2 := fun x y p q => (b x y p q).trans (a x y p q)
theorem sc_M (M : MR_ h z) (hG : G h1) (f : SC_ h h1) : MR_ h1 z := mr_to M hG (fun x k p => f x k (by unfold pc_ at p; omega) (by unfold pc_ at p; omega))
theorem sc_fm (f : SC_ h h1) : FM h h1 := fun x y hx => f x y (by omega) (by omega)
theorem sc_0 (f : SC_ h h1) : h1 196 0 = h 196 0 := f _ _ (by omega) (by omega)
theorem mr_th {t : Int} (M : MR_ h z) (hG : G (hs_ h 196 0 t)) : MR_ (hs_ h 196 0 t) z ∧ FM h (hs_ h 196 0 t) ∧ hs_ h 196 0 t 196 0 = t := ⟨mr_to M hG (fun x k p => hs_ne _ (by unfold pc_ at p; omega)), fun x y hx => hs_ne _ (by omega), hs_eq _ _ _ _⟩
/-- what a call of the reference answers: what it says it threw, its answer -/
def MK_ (Q : PQ) (h z : PH) (th a : Int) : Prop := ∀ h' : PH, MR_ h' z → FM h h' → h' 196 0 = th → Q.1 (some (0, a)) nN h'
/-- k! -/
def fc_ : Nat → Int
  | 0 => 1
  | k + 1 => (k + 1) * fc_ k
theorem fc_11 : fc_ 11 = 39916800 := by decide
theorem fc_1 : ∀ k : Nat, 1 ≤ fc_ k
  | 0 => Int.le_refl _
  | k + 1 => by
    have i := fc_1 k
    rw [fc_]
    have : (k : Int) * fc_ k ≥ 0 := Int.mul_nonneg (by omega) (by omega)
    rw [Int.add_mul]
    omega
/-- who is in whose stock, behind p -/
def LV_ (n : Int) (pa dd : Int → Int) (p : Int) (l : Int → Int) : Prop := ∀ q : Int, p < q → q < n → l q = if dd q = 0 then 1 else sumI (fun j => if pa j = q then l j else 0) (q + 1) (n - 1 - q).toNat
theorem lv_bd {n p : Int} {pa dd l : Int → Int} (H : LV_ n pa dd p l) : ∀ (k : Nat) (q : Int), p < q → q < n → n - q ≤ k → 0 ≤ l q ∧ l q ≤ fc_ k
  | 0, q, _, _, _ => by omega
  | k + 1, q, q0, q1, hk => by
    have f1 := fc_1 k
    have b : ∀ j : Int, q + 1 ≤ j → j < q + 1 + ((n - 1 - q).toNat : Nat) → 0 ≤ (if pa j = q then l j else 0) ∧ (if pa j = q then l j else 0) ≤ fc_ k := fun j j0 j1 => by
      have := lv_bd H k j (by omega) (by omega) (by omega)
      split <;> omega
    have s0 := sumI_nonneg (f := fun j => if pa j = q then l j else 0) (n - 1 - q).toNat (q + 1) (fun j j0 j1 => (b j j0 j1).1)
    have s1 := sumI_le (f := fun j => if pa j = q then l j else 0) (b := fc_ k) (n - 1 - q).toNat (q + 1) (fun j j0 j1 => (b j j0 j1).2)
    have s2 : (((n - 1 - q).toNat : Nat) : Int) * fc_ k ≤ k * fc_ k := Int.mul_le_mul_of_nonneg_right (by omega) (by omega)
    rw [H q q0 q1, fc_, Int.add_mul]
    have s3 : 0 ≤ (k : Int) * fc_ k := Int.mul_nonneg (by omega) (by omega)
    split <;> omega
theorem lv_get {n p : Int} {pa dd l : Int → Int} (H : LV_ n pa dd p l) (n12 : n ≤ 12) (p0 : 0 ≤ p) {q : Int} (q0 : p < q) (q1 : q < n) : 0 ≤ l q ∧ l q ≤ 39916800 := by
  have := lv_bd H 11 q q0 q1 (by omega)
  rw [fc_11] at this
  exact this
theorem lv_sum {n p i : Int} {pa dd l : Int → Int} (H : LV_ n pa dd p l) (n12 : n ≤ 12) (p0 : 0 ≤ p) (i0 : p + 1 ≤ i) (i1 : i ≤ n) : 0 ≤ sumI (fun j => if pa j = p then l j else 0) (p + 1) (i - p - 1).toNat ∧ sumI (fun j => if pa j = p then l j else 0) (p + 1) (i - p - 1).toNat ≤ 439084800 := by
  have b : ∀ j : Int, p + 1 ≤ j → j < p + 1 + ((i - p - 1).toNat : Nat) → 0 ≤ (if pa j = p then l j else 0) ∧ (if pa j = p then l j else 0) ≤ 39916800 := fun j j0 j1 => by
    have := lv_get H n12 p0 (q := j) (by omega) (by omega)
    split <;> omega
  have s0 := sumI_nonneg (f := fun j => if pa j = p then l j else 0) (i - p - 1).toNat (p + 1) (fun j j0 j1 => (b j j0 j1).1)
  have s1 := sumI_le (f := fun j => if pa j = p then l j else 0) (b := 39916800) (i - p - 1).toNat (p + 1) (fun j j0 j1 => (b j j0 j1).2)
  omega
theorem LV_congr {n p : Int} {pa dd l l' : Int → Int} (H : LV_ n pa dd p l) (e : ∀ q : Int, p < q → l' q = l q) : LV_ n pa dd p l' := fun q q0 q1 => by
  rw [e q q0, H q q0 q1]
  split
  · rfl
  · exact sumI_congr _ _ fun j j0 j1 => by rw [e j (by omega)]
theorem LV_end {z : PH} {l : Int → Int} (I : ZI z) (H : LV_ (z 0 1) (z 2) (zdd z) (-1) l) : ∀ q : Int, 0 ≤ q → q < z 0 1 → l q = zlv z q := fun q q0 q1 => lvk_liv (fun q a b => H q (by omega) b) 12 q q0 q1 (by have := I.2.2.1; omega)
theorem sum_up {f : Int → Int} {p i : Int} (h : p + 1 ≤ i) : sumI f (p + 1) (i + 1 - p - 1).toNat = sumI f (p + 1) (i - p - 1).toNat + f i := by
  rw [show (i + 1 - p - 1).toNat = (i - p - 1).toNat + 1 by omega, sumI_snoc, show p + 1 + ((i - p - 1).toNat : Nat) = i by omega]
end X9H
section X9B
variable {d bc bs : Nat} {Q : PQ} {h h0 z : PH}
set_option maxRecDepth 100000 in
set_option maxHeartbeats 4000000 in
theorem lp_X9_isKin {p : Int} (M : MR_ h z) (k : Q.1 (some (0, zkn z p)) nN h) : ∀ (m : Nat) (q : Int), (0 ≤ q) → (q < z 0 1) → (q ≤ m) → (zkn z q = zkn z p) → S_ MX9_isKin d bc bs Q 2 [(2, 196), (0, p), (0, q)] [] nN h := by
  intro m
  induction m with
  | zero =>
    intro q q0 q1 qm he
    have hG := M.1
    have I := mr_i M
    have hT := I.2.1
    have hP := I.2.2.1
    have hN := I.2.2.2.1
    have nn := M.2.1
    have c0 := mr_c M q q0 q1
    have w0 := I.2.2.2.2.1 q q0 q1
    have zk := zkn_0 (z := z) (p := q) (fun j a b => (I.2.2.2.2.1 j a (by omega)).1) q0 (by omega)
    rw [c0.1.symm] at w0 zk
    refine s_aload_n dX9_isKin_2 rfl ?_
    refine s_getr dX9_isKin_3 fl_X9_25 kl_7 (by decide) rfl io_196 (z := 10) rfl (rf_7_10 hG.1 io_196) (rk_7_10 io_196).1 ?_
    refine s_iload_n dX9_isKin_6 rfl ?_
    refine s_iaload dX9_isKin_7 (rk_7_10 io_196) (by omega) (by omega) ?_
    refine s_iconst dX9_isKin_8 ?_
    refine s_icmp_eq (tgt := 22) dX9_isKin_9 (by decide) (by first | exact hG.2 _ _ | exact b01_in _ | assumption | exact ⟨by omega, by omega⟩) (by first | exact hG.2 _ _ | exact b01_in _ | assumption | exact ⟨by omega, by omega⟩) (fun c1 => ?_) (fun c1 => ?_)
    · refine s_aload_n dX9_isKin_22 rfl ?_
      refine s_getr dX9_isKin_23 fl_X9_28 kl_7 (by decide) rfl io_196 (z := 11) rfl (rf_7_11 hG.1 io_196) (rk_7_11 io_196).1 ?_
      refine s_iload_n dX9_isKin_26 rfl ?_
      refine s_baload2 dX9_isKin_27 (rk_7_11 io_196) (by omega) (by omega) ?_
      rw [c0.2]
      have e9 : z 3 q = zkn z p := by rw [← he, zk]; (rcases w0.2.1 with e | e <;> rw [e] <;> first | rw [if_neg (by omega), if_pos (by omega)] | rw [if_pos (by omega)])
      rw [← e9] at k
      exact s_zreturn dX9_isKin_28 rfl w0.2.1 k
    · exact absurd c1 (by omega)
  | succ m ih =>
    intro q q0 q1 qm he
    have hG := M.1
    have I := mr_i M
    have hT := I.2.1
    have hP := I.2.2.1
    have hN := I.2.2.2.1
    have nn := M.2.1
    have c0 := mr_c M q q0 q1
    have w0 := I.2.2.2.2.1 q q0 q1
    have zk := zkn_0 (z := z) (p := q) (fun j a b => (I.2.2.2.2.1 j a (by omega)).1) q0 (by omega)
    rw [c0.1.symm] at w0 zk
    refine s_aload_n dX9_isKin_2 rfl ?_
    refine s_getr dX9_isKin_3 fl_X9_25 kl_7 (by decide) rfl io_196 (z := 10) rfl (rf_7_10 hG.1 io_196) (rk_7_10 io_196).1 ?_
    refine s_iload_n dX9_isKin_6 rfl ?_
    refine s_iaload dX9_isKin_7 (rk_7_10 io_196) (by omega) (by omega) ?_
    refine s_iconst dX9_isKin_8 ?_
    refine s_icmp_eq (tgt := 22) dX9_isKin_9 (by decide) (by first | exact hG.2 _ _ | exact b01_in _ | assumption | exact ⟨by omega, by omega⟩) (by first | exact hG.2 _ _ | exact b01_in _ | assumption | exact ⟨by omega, by omega⟩) (fun c1 => ?_) (fun c1 => ?_)
    · refine s_aload_n dX9_isKin_22 rfl ?_
      refine s_getr dX9_isKin_23 fl_X9_28 kl_7 (by decide) rfl io_196 (z := 11) rfl (rf_7_11 hG.1 io_196) (rk_7_11 io_196).1 ?_
      refine s_iload_n dX9_isKin_26 rfl ?_
      refine s_baload2 dX9_isKin_27 (rk_7_11 io_196) (by omega) (by omega) ?_
      rw [c0.2]
      have e9 : z 3 q = zkn z p := by rw [← he, zk]; (rcases w0.2.1 with e | e <;> rw [e] <;> first | rw [if_neg (by omega), if_pos (by omega)] | rw [if_pos (by omega)])
      rw [← e9] at k
      exact s_zreturn dX9_isKin_28 rfl w0.2.1 k
    · refine s_aload_n dX9_isKin_12 rfl ?_
      refine s_getr dX9_isKin_13 fl_X9_25 kl_7 (by decide) rfl io_196 (z := 10) rfl (rf_7_10 hG.1 io_196) (rk_7_10 io_196).1 ?_
      refine s_iload_n dX9_isKin_16 rfl ?_
      refine s_iaload dX9_isKin_17 (rk_7_10 io_196) (by omega) (by omega) ?_
      refine s_istore_n dX9_isKin_18 (by decide) rfl (L' := [_, _, _]) rfl ?_
      refine s_goto (tgt := 2) dX9_isKin_19 (by decide) ?_
      exact ih _ (by omega) (by omega) (by omega) (by rw [← he, zk, if_neg (by omega), if_neg (by omega)])
set_option maxRecDepth 100000 in
set_option maxHeartbeats 4000000 in
theorem c_X9_isKin {p : Int} (M : MR_ h z) (p0 : 0 ≤ p) (p1 : p < z 0 1) (k : Q.1 (some (0, zkn z p)) nN h) : Cl_ yX9_isKin MX9_isKin d bc bs [(2, 196), (0, p)] nN h Q := by
  refine s_enter pn_X9 rfl (Nat.le_of_ble_eq_true rfl) (L := [(2, _), (0, _), (9, 0)]) rfl ?_
  refine s_iload_n dX9_isKin_0 rfl ?_
  refine s_istore_n dX9_isKin_1 (by decide) rfl (L' := [_, _, _]) rfl ?_
  exact lp_X9_isKin M k p.toNat p p0 p1 (by omega) rfl
set_option maxRecDepth 100000 in
set_option maxHeartbeats 4000000 in
theorem lp_X9_stk {p : Int} (hd : 1 ≤ d) (M0 : MR_ h0 z) (p0 : 0 ≤ p) (p1 : p < z 0 1) (k : ∀ (i : Int) (h : PH), G h → (∀ x y : Int, ¬ x = 196 + 16 → h x y = h0 x y) → LV_ (z 0 1) (z 2) (zdd z) (p - 1) (h (196 + 16)) → S_ MX9_laysStocks d bc bs Q 85 [(2, 196), (0, p), (0, i)] [] nN h) : ∀ (m : Nat) (i : Int) (h : PH), (p + 1 ≤ i) → (i + m = z 0 1) → (G h) → (∀ x y : Int, ¬ x = 196 + 16 → h x y = h0 x y) → (LV_ (z 0 1) (z 2) (zdd z) p (h (196 + 16))) → (¬ zdd z p = 0 → h (196 + 16) p = sumI (fun j => if z 2 j = p then h (196 + 16) j else 0) (p + 1) (i - p - 1).toNat) → (zdd z p = 0 → h (196 + 16) p = 1) → S_ MX9_laysStocks d bc bs Q 34 [(2, 196), (0, p), (0, i)] [] nN h := by
  intro m
  induction m with
  | zero =>
    intro i h i0 im gG fr H sd sl
    have hG := gG
    have M := mr_to M0 gG (fun x k q => fr x k (by unfold pc_ at q; omega))
    have I := mr_i M
    have hP := I.2.2.1
    have nn := M.2.1
    have hs := lv_sum H (by omega) p0 (i := i) i0 (by omega)
    have hg := fun w : i < z 0 1 => lv_get H (by omega) p0 (q := i) (by omega) w
    refine s_iload_n dX9_laysStocks_34 rfl ?_
    refine s_aload_n dX9_laysStocks_35 rfl ?_
    refine s_geti dX9_laysStocks_36 fl_X9_281 kl_7 (by decide) rfl io_196 (z := 6) rfl ?_
    refine s_icmp_ge (tgt := 85) dX9_laysStocks_39 (by decide) (by first | exact hG.2 _ _ | exact b01_in _ | assumption | exact ⟨by omega, by omega⟩) (by first | exact hG.2 _ _ | exact b01_in _ | assumption | exact ⟨by omega, by omega⟩) (fun c1 => ?_) (fun c1 => ?_)
    · exact k _ _ gG fr (fun q q0 q1 => by
        rcases (by omega : q = p ∨ p < q) with e | e
        · rw [e]
          by_cases w : zdd z p = 0
          · rw [if_pos w]; exact sl w
          · rw [if_neg w, sd w]; first | rw [show i - p - 1 = z 0 1 - 1 - p by omega] | exact absurd w (b01_0.mp c1)
        · exact H q e q1)
    · exact absurd c1 (by omega)
  | succ m ih =>
    intro i h i0 im gG fr H sd sl
    have hG := gG
    have M := mr_to M0 gG (fun x k q => fr x k (by unfold pc_ at q; omega))
    have I := mr_i M
    have hP := I.2.2.1
    have nn := M.2.1
    have hs := lv_sum H (by omega) p0 (i := i) i0 (by omega)
    have hg := fun w : i < z 0 1 => lv_get H (by omega) p0 (q := i) (by omega) w
    refine s_iload_n dX9_laysStocks_34 rfl ?_
    refine s_aload_n dX9_laysStocks_35 rfl ?_
    refine s_geti dX9_laysStocks_36 fl_X9_281 kl_7 (by decide) rfl io_196 (z := 6) rfl ?_
    refine s_icmp_ge (tgt := 85) dX9_laysStocks_39 (by decide) (by first | exact hG.2 _ _ | exact b01_in _ | assumption | exact ⟨by omega, by omega⟩) (by first | exact hG.2 _ _ | exact b01_in _ | assumption | exact ⟨by omega, by omega⟩) (fun c1 => ?_) (fun c1 => ?_)
    · exact absurd c1 (by omega)
    · refine s_aload_n dX9_laysStocks_42 rfl ?_
      refine s_iload_n dX9_laysStocks_43 rfl ?_
      refine s_callV (d' := d - 1) (bc' := 0) (bs' := 0) (as := [_]) dX9_laysStocks_44 vf_X9_308 (dd_ (by omega) (by decide)) ⟨Nat.zero_le _, Nat.zero_le _⟩ rfl rfl (Nat.le_of_ble_eq_true rfl) kl_7 rfl io_196 ?_
      refine c_X9_isDead M p0 (by omega) ?_
      refine s_if_eq (tgt := 85) dX9_laysStocks_47 (by decide) (by first | exact hG.2 _ _ | exact b01_in _ | assumption | exact ⟨by omega, by omega⟩) (fun c2 => ?_) (fun c2 => ?_)
      · have c2 := b01_0.mp c2
        exact k _ _ gG fr (fun q q0 q1 => by
          rcases (by omega : q = p ∨ p < q) with e | e
          · rw [e]
            by_cases w : zdd z p = 0
            · rw [if_pos w]; exact sl w
            · rw [if_neg w, sd w]; first | rw [show i - p - 1 = z 0 1 - 1 - p by omega] | exact absurd w (b01_0.mp c2)
          · exact H q e q1)
      · have d2 := b01_n.mp c2
        have hi9 := hg (by omega)
        have sd9 := sd d2--go
        have c2 := b01_n.mp c2
        refine s_aload_n dX9_laysStocks_50 rfl ?_
        refine s_getr dX9_laysStocks_51 fl_X9_61 kl_7 (by decide) rfl io_196 (z := 28) rfl (rf_7_28 hG.1 io_196) (rk_7_28 io_196).1 ?_
        refine s_iload_n dX9_laysStocks_54 rfl ?_
        refine s_dup2 dX9_laysStocks_55 rfl rfl ?_
        refine s_iaload dX9_laysStocks_56 (rk_7_28 io_196) (by omega) (by omega) ?_
        refine s_aload_n dX9_laysStocks_57 rfl ?_
        refine s_getr dX9_laysStocks_58 fl_X9_25 kl_7 (by decide) rfl io_196 (z := 10) rfl (rf_7_10 hG.1 io_196) (rk_7_10 io_196).1 ?_
        refine s_iload_n dX9_laysStocks_61 rfl ?_
        refine s_iaload dX9_laysStocks_62 (rk_7_10 io_196) (by omega) (by omega) ?_
        refine s_iload_n dX9_laysStocks_63 rfl ?_
        refine s_icmp_ne (tgt := 76) dX9_laysStocks_64 (by decide) (by first | exact hG.2 _ _ | exact b01_in _ | assumption | exact ⟨by omega, by omega⟩) (by first | exact hG.2 _ _ | exact b01_in _ | assumption | exact ⟨by omega, by omega⟩) (fun c3 => ?_) (fun c3 => ?_)
        · refine s_iconst dX9_laysStocks_76 ?_
          refine s_iadd dX9_laysStocks_77 ?_
          refine s_iastoreG dX9_laysStocks_78 (rk_7_28 io_196) (by omega) (by omega) hG (by first | exact hG.2 _ _ | exact b01_in _ | assumption | exact ⟨by omega, by omega⟩) (fun hG1 => ?_)
          refine s_iinc dX9_laysStocks_79 rfl (by decide) rfl (L' := [_, _, _]) rfl ?_
          refine s_goto (tgt := 34) dX9_laysStocks_82 (by decide) ?_
          have e3 : ∀ q : Int, p < q → hs_ h (196 + 16) p (h (196 + 16) p + 0) (196 + 16) q = h (196 + 16) q := fun q hq => hs_ne _ (by omega)
          have hi := (mr_c M i (by omega) (by omega)).1
          refine ih (i + 1) _ (by omega) (by omega) hG1 (fun x y hx => by rw [hs_ne _ (fun w => hx w.1)]; exact fr x y hx) (LV_congr H e3) (fun _ => ?_) (fun w => absurd w c2)
          rw [hs_eq, sum_up (by omega), sumI_congr (g := fun j => if z 2 j = p then h (196 + 16) j else 0) _ _ (fun j j0 j1 => by rw [e3 j (by omega)]), e3 i (by omega), sd c2]
          first | (rw [if_pos (by omega)]; done) | (rw [if_neg (by omega)]; omega) | (rw [if_neg (by omega)]; done)
        · refine s_aload_n dX9_laysStocks_67 rfl ?_
          refine s_getr dX9_laysStocks_68 fl_X9_61 kl_7 (by decide) rfl io_196 (z := 28) rfl (rf_7_28 hG.1 io_196) (rk_7_28 io_196).1 ?_
          refine s_iload_n dX9_laysStocks_71 rfl ?_
          refine s_iaload dX9_laysStocks_72 (rk_7_28 io_196) (by omega) (by omega) ?_
          refine s_goto (tgt := 77) dX9_laysStocks_73 (by decide) ?_
          refine s_iadd dX9_laysStocks_77 ?_
          refine s_iastoreG dX9_laysStocks_78 (rk_7_28 io_196) (by omega) (by omega) hG (by first | exact hG.2 _ _ | exact b01_in _ | assumption | exact ⟨by omega, by omega⟩) (fun hG2 => ?_)
          refine s_iinc dX9_laysStocks_79 rfl (by decide) rfl (L' := [_, _, _]) rfl ?_
          refine s_goto (tgt := 34) dX9_laysStocks_82 (by decide) ?_
          have e3 : ∀ q : Int, p < q → hs_ h (196 + 16) p (h (196 + 16) p + h (196 + 16) i) (196 + 16) q = h (196 + 16) q := fun q hq => hs_ne _ (by omega)
          have hi := (mr_c M i (by omega) (by omega)).1
          refine ih (i + 1) _ (by omega) (by omega) hG2 (fun x y hx => by rw [hs_ne _ (fun w => hx w.1)]; exact fr x y hx) (LV_congr H e3) (fun _ => ?_) (fun w => absurd w c2)
          rw [hs_eq, sum_up (by omega), sumI_congr (g := fun j => if z 2 j = p then h (196 + 16) j else 0) _ _ (fun j j0 j1 => by rw [e3 j (by omega)]), e3 i (by omega), sd c2]
          first | (rw [if_pos (by omega)]; done) | (rw [if_neg (by omega)]; omega) | (rw [if_neg (by omega)]; done)
set_option maxRecDepth 100000 in
set_option maxHeartbeats 4000000 in
theorem lp_X9_laysStocks  (hd : 2 ≤ d) (M0 : MR_ h0 z) (k : ∀ h : PH, G h → (∀ x y : Int, ¬ x = 196 + 16 → h x y = h0 x y) → (∀ q : Int, 0 ≤ q → q < z 0 1 → h (196 + 16) q = zlv z q) → Q.1 none nN h) : ∀ (m : Nat) (p : Int) (h : PH), (-1 ≤ p) → (p + 1 = m) → (p < z 0 1) → (G h) → (∀ x y : Int, ¬ x = 196 + 16 → h x y = h0 x y) → (LV_ (z 0 1) (z 2) (zdd z) p (h (196 + 16))) → S_ MX9_laysStocks d bc bs Q 7 [(2, 196), (0, p), (9, 0)] [] nN h := by
  intro m
  induction m with
  | zero =>
    intro p h p0 pm p1 gG fr H
    have hG := gG
    have M := mr_to M0 gG (fun x k q => fr x k (by unfold pc_ at q; omega))
    have I := mr_i M
    have hP := I.2.2.1
    have nn := M.2.1
    have hd1 : 1 ≤ d := by omega
    refine s_iload_n dX9_laysStocks_7 rfl ?_
    refine s_if_lt (tgt := 91) dX9_laysStocks_8 (by decide) (by first | exact hG.2 _ _ | exact b01_in _ | assumption | exact ⟨by omega, by omega⟩) (fun c1 => ?_) (fun c1 => ?_)
    · exact s_return dX9_laysStocks_91 rfl (k _ gG fr (LV_end I (by rw [show (-1 : Int) = p by omega]; exact H)))
    · exact absurd c1 (by omega)
  | succ m ih =>
    intro p h p0 pm p1 gG fr H
    have hG := gG
    have M := mr_to M0 gG (fun x k q => fr x k (by unfold pc_ at q; omega))
    have I := mr_i M
    have hP := I.2.2.1
    have nn := M.2.1
    have hd1 : 1 ≤ d := by omega
    refine s_iload_n dX9_laysStocks_7 rfl ?_
    refine s_if_lt (tgt := 91) dX9_laysStocks_8 (by decide) (by first | exact hG.2 _ _ | exact b01_in _ | assumption | exact ⟨by omega, by omega⟩) (fun c1 => ?_) (fun c1 => ?_)
    · exact absurd c1 (by omega)
    · refine s_aload_n dX9_laysStocks_11 rfl ?_
      refine s_getr dX9_laysStocks_12 fl_X9_61 kl_7 (by decide) rfl io_196 (z := 28) rfl (rf_7_28 hG.1 io_196) (rk_7_28 io_196).1 ?_
      refine s_iload_n dX9_laysStocks_15 rfl ?_
      refine s_aload_n dX9_laysStocks_16 rfl ?_
      refine s_iload_n dX9_laysStocks_17 rfl ?_
      refine s_callV (d' := d - 1) (bc' := 0) (bs' := 0) (as := [_]) dX9_laysStocks_18 vf_X9_308 (dd_ (by omega) (by decide)) ⟨Nat.zero_le _, Nat.zero_le _⟩ rfl rfl (Nat.le_of_ble_eq_true rfl) kl_7 rfl io_196 ?_
      refine c_X9_isDead M (by omega) (by omega) ?_
      refine s_if_eq (tgt := 28) dX9_laysStocks_21 (by decide) (by first | exact hG.2 _ _ | exact b01_in _ | assumption | exact ⟨by omega, by omega⟩) (fun c2 => ?_) (fun c2 => ?_)
      · have c2 := b01_0.mp c2
        refine s_iconst dX9_laysStocks_28 ?_
        refine s_iastoreG dX9_laysStocks_29 (rk_7_28 io_196) (by omega) (by omega) hG (by first | exact hG.2 _ _ | exact b01_in _ | assumption | exact ⟨by omega, by omega⟩) (fun hG1 => ?_)
        refine s_iload_n dX9_laysStocks_30 rfl ?_
        refine s_iconst dX9_laysStocks_31 ?_
        refine s_iadd dX9_laysStocks_32 ?_
        refine s_istore_n dX9_laysStocks_33 (by decide) rfl (L' := [_, _, _]) rfl ?_
        refine lp_X9_stk hd1 M0 (by omega) p1 (fun i9 h9 g9 f9 H9 => ?_) (z 0 1 - (p + 1)).toNat (p + 1) _ (by omega) (by omega) hG1 (fun x y hx => by rw [hs_ne _ (fun w => hx w.1)]; exact fr x y hx) (LV_congr H (fun q hq => hs_ne _ (by omega))) (fun w => absurd w c2) (fun _ => hs_eq _ _ _ _)
        refine s_iinc dX9_laysStocks_85 rfl (by decide) rfl (L' := [_, _, _]) rfl ?_
        refine s_goto (tgt := 7) dX9_laysStocks_88 (by decide) ?_
        refine s_fg (L' := [(2, 196), (0, p + -1), (9, 0)]) ⟨Or.inr rfl, Or.inr rfl, Or.inl rfl, trivial⟩ ?_
        exact ih (p + -1) h9 (by omega) (by omega) (by omega) g9 f9 (by rw [show p + -1 = p - 1 by omega]; exact H9)
      · have c2 := b01_n.mp c2
        refine s_iconst dX9_laysStocks_24 ?_
        refine s_goto (tgt := 29) dX9_laysStocks_25 (by decide) ?_
        refine s_iastoreG dX9_laysStocks_29 (rk_7_28 io_196) (by omega) (by omega) hG (by first | exact hG.2 _ _ | exact b01_in _ | assumption | exact ⟨by omega, by omega⟩) (fun hG2 => ?_)
        refine s_iload_n dX9_laysStocks_30 rfl ?_
        refine s_iconst dX9_laysStocks_31 ?_
        refine s_iadd dX9_laysStocks_32 ?_
        refine s_istore_n dX9_laysStocks_33 (by decide) rfl (L' := [_, _, _]) rfl ?_
        refine lp_X9_stk hd1 M0 (by omega) p1 (fun i9 h9 g9 f9 H9 => ?_) (z 0 1 - (p + 1)).toNat (p + 1) _ (by omega) (by omega) hG2 (fun x y hx => by rw [hs_ne _ (fun w => hx w.1)]; exact fr x y hx) (LV_congr H (fun q hq => hs_ne _ (by omega))) (fun _ => by rw [hs_eq, show (p + 1 - p - 1).toNat = 0 by omega]; rfl) (fun w => absurd w c2)
        refine s_iinc dX9_laysStocks_85 rfl (by decide) rfl (L' := [_, _, _]) rfl ?_
        refine s_goto (tgt := 7) dX9_laysStocks_88 (by decide) ?_
        refine s_fg (L' := [(2, 196), (0, p + -1), (9, 0)]) ⟨Or.inr rfl, Or.inr rfl, Or.inl rfl, trivial⟩ ?_
        exact ih (p + -1) h9 (by omega) (by omega) (by omega) g9 f9 (by rw [show p + -1 = p - 1 by omega]; exact H9)
set_option maxRecDepth 100000 in
set_option maxHeartbeats 4000000 in
theorem c_X9_laysStocks  (hd : 2 ≤ d) (M : MR_ h z) (k : ∀ h1 : PH, G h1 → (∀ x y : Int, ¬ x = 196 + 16 → h1 x y = h x y) → (∀ q : Int, 0 ≤ q → q < z 0 1 → h1 (196 + 16) q = zlv z q) → Q.1 none nN h1) : Cl_ yX9_laysStocks MX9_laysStocks d bc bs [(2, 196)] nN h Q := by
  refine s_enter pn_X9 rfl (Nat.le_of_ble_eq_true rfl) (L := [(2, _), (9, 0), (9, 0)]) rfl ?_
  have hG := M.1
  have I := mr_i M
  have hT := I.2.1
  have hP := I.2.2.1
  have hN := I.2.2.2.1
  have nn := M.2.1
  refine s_aload_n dX9_laysStocks_0 rfl ?_
  refine s_geti dX9_laysStocks_1 fl_X9_281 kl_7 (by decide) rfl io_196 (z := 6) rfl ?_
  refine s_iconst dX9_laysStocks_4 ?_
  refine s_isub dX9_laysStocks_5 ?_
  refine s_istore_n dX9_laysStocks_6 (by decide) rfl (L' := [_, _, _]) rfl ?_
  rw [nn.2.1]
  exact lp_X9_laysStocks hd M k (z 0 1).toNat (z 0 1 - 1) h (by omega) (by omega) (by omega) hG (fun _ _ _ => rfl) (fun q a b => by omega)
end X9B
