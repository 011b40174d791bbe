/-! the reference writes its report -/
/-- what the reference has written -/
def TM_ (h : PH) (u : UT) : Prop := G h ∧ h 196 44 = u.1 ∧ ∀ k : Int, 0 ≤ k → k < u.1 → h (196 + 27) k = u.2 k
/-- all else is as it was -/
def UM_ (h h1 : PH) : Prop := ∀ x y : Int, ¬ x = 196 + 27 → ¬ (x = 196 ∧ y = 44) → h1 x y = h x y
theorem UM_.rf (h : PH) : UM_ h h := fun _ _ _ _ => rfl
theorem UM_.tr {h h1 h2 : PH} (a : UM_ h h1) (b : UM_ h1 h2) : UM_ h h2 := fun x y p q => (b x y p q).trans (a x y p q)
theorem um_fm {h h1 : PH} (f : UM_ h h1) : FM h h1 := fun x y hx => f x y (by omega) (by omega)
theorem tm_of {h z : PH} {u : UT} (M : MR_ h (zwt z u)) : TM_ h u := ⟨M.1, M.2.2.2.2.2.2.2.2.2.2.1.1, M.2.2.2.2.2.2.2.2.2.2.1.2⟩
theorem mr_tx {h h1 z : PH} {u : UT} {l : Int} (M : MR_ h z) (T : TM_ h1 u) (o : OKT u l) (hl : l ≤ 300) (f : UM_ h h1) : MR_ h1 (zwt z u) := by
  obtain ⟨-, ⟨a1, a2, a3⟩, a4, ⟨a5, a6⟩, a7, a8, a9, b1, ⟨b2, b3⟩, b4, -, b7, b8⟩ := M
  obtain ⟨hG, t1, t2⟩ := T
  have e : ∀ x : Int, ¬ x = 54 → ¬ x = 55 → zwt z u x = z x := fun x a b => zwt_ne a b
  have e0 := e 0 (by omega) (by omega)
  have hT := b7.2.1
  have hP := b7.2.2.1
  have hN := b7.2.2.2.1
  refine ⟨hG, ⟨by rw [f _ _ (by omega) (by omega), e0]; exact a1, by rw [f _ _ (by omega) (by omega), e0]; exact a2, by rw [f _ _ (by omega) (by omega), e0]; exact a3⟩, fun k p q => by rw [f _ _ (by omega) (by omega), e 1 (by omega) (by omega)]; exact a4 k p q, ⟨by rw [f _ _ (by omega) (by omega), e 53 (by omega) (by omega)]; exact a5, fun j k p q r s => ?_⟩, fun t p q => ?_, fun t p q => ?_, fun p a b => ?_, fun g v p q r s => ?_, ⟨by rw [f _ _ (by omega) (by omega), e 50 (by omega) (by omega)]; exact b2, fun k p q => by rw [f _ _ (by omega) (by omega), e 51 (by omega) (by omega)]; exact b3 k p q⟩, by rw [f _ _ (by omega) (by omega), e 52 (by omega) (by omega)]; exact b4, ⟨t1, t2⟩, zi_e (zwt_E z u) b7, zb_tx b7 b8 o hl⟩
  · rw [e 53 (by omega) (by omega)] at q
    rw [f _ _ (by omega) (by omega), e (60 + j) (by omega) (by omega)]
    exact a6 j k p q r s
  · rw [e0] at q
    rw [f _ _ (by omega) (by omega), e (20 + t) (by omega) (by omega), e 10 (by omega) (by omega)]
    exact a7 t p q
  · rw [e0] at q
    rw [f _ _ (by omega) (by omega), e (30 + t) (by omega) (by omega), e 11 (by omega) (by omega)]
    exact a8 t p q
  · rw [e0] at b
    rw [f _ _ (by omega) (by omega), f _ _ (by omega) (by omega), e 2 (by omega) (by omega), e 3 (by omega) (by omega)]
    exact a9 p a b
  · rw [e0] at q
    rw [f _ _ (by omega) (by omega), e (5 + v) (by omega) (by omega)]
    exact b1 g v p q r s
theorem rm_e {h z z' : PH} (E : ZE z z') (R : RM_ h z) : RM_ h z' := by
  unfold RM_
  rw [zde_e E, zgt_e E, zct_e E, zrs_e E, zin_e E, zbo_e E, zlv_e E, zhr_e E, E.1, E.2.2.2.1]
  exact R
theorem rm_u {h h1 z : PH} (R : RM_ h z) (f : UM_ h h1) : RM_ h1 z := by
  obtain ⟨a, b, c, e, g, i⟩ := R
  refine ⟨fun x y p q r s => ?_, by rw [f _ _ (by omega) (by omega)]; exact b, by rw [f _ _ (by omega) (by omega)]; exact c, by rw [f _ _ (by omega) (by omega)]; exact e, by rw [f _ _ (by omega) (by omega)]; exact g, fun p p0 p1 => by rw [f _ _ (by omega) (by omega)]; exact i p p0 p1⟩
  rw [f _ _ (by omega) (by omega), f _ _ (by omega) (by omega)]
  exact a x y p q r s
/-- r of n digits of v behind u -/
def tnp (u : UT) (v n r : Int) : UT := (u.1 + r, fun k => if u.1 ≤ k ∧ k < u.1 + r then 48 + dt_ v (n - 1 - (k - u.1)) else u.2 k)
theorem tnp_0 (u : UT) (v n : Int) : tnp u v n 0 = u := by
  refine Prod.ext (by show u.1 + 0 = u.1; omega) (funext fun k => ?_)
  show (if u.1 ≤ k ∧ k < u.1 + 0 then _ else u.2 k) = u.2 k
  rw [if_neg (by omega)]
theorem tnp_s {u : UT} {v n r : Int} (r0 : 0 ≤ r) : tc_ (tnp u v n r) (48 + dt_ v (n - 1 - r)) = tnp u v n (r + 1) := by
  refine Prod.ext (by show u.1 + r + 1 = u.1 + (r + 1); omega) (funext fun k => ?_)
  show (if k = u.1 + r then 48 + dt_ v (n - 1 - r) else if u.1 ≤ k ∧ k < u.1 + r then 48 + dt_ v (n - 1 - (k - u.1)) else u.2 k) = if u.1 ≤ k ∧ k < u.1 + (r + 1) then 48 + dt_ v (n - 1 - (k - u.1)) else u.2 k
  by_cases c : k = u.1 + r
  · rw [if_pos c, if_pos (by omega)]
    congr 2
    omega
  · rw [if_neg c]
    by_cases c2 : u.1 ≤ k ∧ k < u.1 + r
    · rw [if_pos c2, if_pos (by omega)]
    · rw [if_neg c2, if_neg (by omega)]
theorem tnp_n (u : UT) (v : Int) : tnp u v (nd_ v) (nd_ v) = tn_ u v := rfl
/-- 10^(m - 1), nothing where m is 0 -/
def dd10 : Nat → Int
  | 0 => 0
  | m + 1 => 10 ^ m
theorem p10_bd : ∀ m : Nat, m < 10 → 1 ≤ (10 : Int) ^ m ∧ (10 : Int) ^ m ≤ 1000000000 := by decide
theorem dd10_s : ∀ m : Nat, (dd10 (m + 1)).tdiv 10 = dd10 m
  | 0 => by decide
  | m + 1 => by
    show ((10 : Int) ^ (m + 1)).tdiv 10 = 10 ^ m
    rw [Int.pow_succ, Int.mul_tdiv_cancel _ (by decide)]
theorem sv_td {v : Int} (v0 : 0 ≤ v) (j : Nat) : v.tdiv (10 ^ j) = sv_ v j := Int.tdiv_eq_ediv_of_nonneg v0
section X9W2
variable {d bc bs : Nat} {Q : PQ} {h h0 z : PH} {u : UT}
set_option maxRecDepth 100000 in
set_option maxHeartbeats 4000000 in
theorem c_X9_writes {c : Int} (T : TM_ h u) (u0 : 0 ≤ u.1) (hl : u.1 + 1 ≤ 300) (hc : inI c) (k : ∀ h1 : PH, TM_ h1 (tc_ u c) → UM_ h h1 → Q.1 none nN h1) : Cl_ yX9_writes MX9_writes d bc bs [(2, 196), (0, c)] nN h Q := by
  refine s_enter pn_X9 rfl (Nat.le_of_ble_eq_true rfl) (L := [(2, _), (0, _)]) rfl ?_
  have hG := T.1
  have en := T.2.1
  refine s_aload_n dX9_writes_0 rfl ?_
  refine s_getr dX9_writes_1 fl_X9_95 kl_7 (by decide) rfl io_196 (z := 43) rfl (rf_7_43 hG.1 io_196) (rk_7_43 io_196).1 ?_
  refine s_aload_n dX9_writes_4 rfl ?_
  refine s_geti dX9_writes_5 fl_X9_448 kl_7 (by decide) rfl io_196 (z := 44) rfl ?_
  rw [en]
  refine s_iload_n dX9_writes_8 rfl ?_
  refine s_iastoreG dX9_writes_9 (rk_7_43 io_196) (by omega) (by omega) hG (by first | exact hG.2 _ _ | exact b01_in _ | assumption | exact ⟨by omega, by omega⟩) (fun hG1 => ?_)
  refine s_aload_n dX9_writes_10 rfl ?_
  refine s_dup dX9_writes_11 rfl ?_
  refine s_geti dX9_writes_12 fl_X9_448 kl_7 (by decide) rfl io_196 (z := 44) rfl ?_
  rw [hs_ne _ (by omega), en]
  refine s_iconst dX9_writes_15 ?_
  refine s_iadd dX9_writes_16 ?_
  refine s_putiG 44 dX9_writes_17 fl_X9_448 kl_7 (by decide) rfl rfl io_196 (z := 44) rfl (by decide +kernel) hG1 (by first | exact hG1.2 _ _ | exact hG.2 _ _ | exact b01_in _ | assumption | exact ⟨by omega, by omega⟩) (fun hG2 => ?_)
  refine s_return dX9_writes_20 rfl (k _ ⟨hG2, ?_, fun k k0 k1 => ?_⟩ (fun x y a b => by rw [hs_ne _ (by omega), hs_ne _ (by omega)]))
  · rw [hs_eq]
    rfl
  · show _ = if k = u.1 then c else u.2 k
    have k2 : k < u.1 + 1 := k1
    rw [hs_ne _ (by omega)]
    by_cases e : k = u.1
    · rw [if_pos e, e, hs_eq]
    · rw [if_neg e, hs_ne _ (by omega)]
      exact T.2.2 k k0 (by omega)
set_option maxRecDepth 100000 in
set_option maxHeartbeats 4000000 in
theorem lp_X9_wn2 (hd : 1 ≤ d) {v b : Int} (v0 : 0 ≤ v) (v1 : v < 2147483648) (u0 : 0 ≤ u.1) (hl : u.1 + nd_ v ≤ 300) (k : ∀ h1 : PH, TM_ h1 (tn_ u v) → UM_ h0 h1 → Q.1 none nN h1) : ∀ (m : Nat) (r : Int) (h : PH), (0 ≤ r) → (r + m = nd_ v) → (TM_ h (tnp u v (nd_ v) r)) → (UM_ h0 h) → S_ MX9_writesNumber d bc bs Q 20 [(2, 196), (0, v), (0, b), (0, dd10 m)] [] nN h := by
  intro m
  induction m with
  | zero =>
    intro r h r0 rm T um
    have nb := nd_bd v
    have hG := T.1
    refine s_iload_n dX9_writesNumber_20 rfl ?_
    refine s_if_le (tgt := 45) dX9_writesNumber_21 (by decide) (by show inI 0; exact inI0) (fun _ => ?_) (fun c => absurd (show (0 : Int) < 0 from c) (by omega))
    have e : r = nd_ v := by omega
    rw [e, tnp_n] at T
    exact s_return dX9_writesNumber_45 rfl (k h T um)
  | succ m ih =>
    intro r h r0 rm T um
    have nb := nd_bd v
    have hG := T.1
    have pb := p10_bd m (by omega)
    have e1 : dd10 (m + 1) = 10 ^ m := rfl
    have e2 : (nd_ v - 1 - r).toNat = m := by omega
    have e3 : v.tdiv (10 ^ m) = sv_ v m := sv_td v0 m
    have s0 : 0 ≤ sv_ v m := sv_nn v0 m
    have s1 : sv_ v m ≤ v := Int.ediv_le_self _ v0
    have e4 : (sv_ v m).tmod 10 = dt_ v (nd_ v - 1 - r) := by rw [dt_sv, e2, Int.tmod_eq_emod_of_nonneg s0]
    have db := dt_bd v (nd_ v - 1 - r)
    have d1 := dd10_s m
    rw [e1] at d1 ⊢
    generalize (10 : Int) ^ m = q at *
    refine s_iload_n dX9_writesNumber_20 rfl ?_
    refine s_if_le (tgt := 45) dX9_writesNumber_21 (by decide) ⟨by omega, by omega⟩ (fun c => absurd c (by omega)) (fun _ => ?_)
    refine s_aload_n dX9_writesNumber_24 rfl ?_
    refine s_bipush dX9_writesNumber_25 (by decide) ?_
    refine s_iload_n dX9_writesNumber_27 rfl ?_
    refine s_iload_n dX9_writesNumber_28 rfl ?_
    refine s_idiv dX9_writesNumber_29 ⟨by omega, by omega⟩ ⟨by omega, by omega⟩ (by omega) (by omega) ?_
    rw [e3]
    refine s_bipush dX9_writesNumber_30 (by decide) ?_
    refine s_irem dX9_writesNumber_32 ⟨by omega, by omega⟩ ⟨by omega, by omega⟩ (by omega) (by omega) ?_
    rw [e4]
    refine s_iadd dX9_writesNumber_33 ?_
    refine s_callV (d' := d - 1) (bc' := 0) (bs' := 0) (as := [_]) dX9_writesNumber_34 vf_X9_451 (dd_ (by omega) (by decide)) ⟨Nat.zero_le _, Nat.zero_le _⟩ rfl rfl (Nat.le_of_ble_eq_true rfl) kl_7 rfl io_196 ?_
    refine c_X9_writes T (by show 0 ≤ u.1 + r; omega) (by show u.1 + r + 1 ≤ 300; omega) ⟨by omega, by omega⟩ (fun h1 T f9 => ?_)
    rw [tnp_s r0] at T
    refine s_iload_n dX9_writesNumber_37 rfl ?_
    refine s_bipush dX9_writesNumber_38 (by decide) ?_
    refine s_idiv dX9_writesNumber_40 ⟨by omega, by omega⟩ ⟨by omega, by omega⟩ (by omega) (by omega) ?_
    rw [d1]
    refine s_istore_n dX9_writesNumber_41 (by decide) rfl (L' := [_, _, _, _]) rfl ?_
    refine s_goto (tgt := 20) dX9_writesNumber_42 (by decide) ?_
    exact ih (r + 1) h1 (by omega) (by omega) T (um.tr f9)

set_option maxRecDepth 100000 in
set_option maxHeartbeats 4000000 in
theorem lp_X9_wn1 (hd : 1 ≤ d) {v : Int} (v0 : 0 ≤ v) (v1 : v < 2147483648) (T : TM_ h u) (u0 : 0 ≤ u.1) (hl : u.1 + nd_ v ≤ 300) (k : ∀ h1 : PH, TM_ h1 (tn_ u v) → UM_ h h1 → Q.1 none nN h1) : ∀ (m j : Nat), (nd_ v ≤ j + m + 1 ∧ (j : Int) + 1 ≤ nd_ v) → (j = 0 ∨ 1 ≤ sv_ v j) → S_ MX9_writesNumber d bc bs Q 2 [(2, 196), (0, v), (0, 10 ^ j), (9, 0)] [] nN h := by
  intro m
  induction m with
  | zero =>
    intro j jm j1
    have nb := nd_bd v
    have jn : j < 10 := by omega
    have pb := p10_bd j jn
    have pn : (10 : Int) ^ (j + 1) = 10 ^ j * 10 := Int.pow_succ _ _
    have e3 : v.tdiv (10 ^ j) = sv_ v j := sv_td v0 j
    have s0 : 0 ≤ sv_ v j := sv_nn v0 j
    have s1 : sv_ v j ≤ v := Int.ediv_le_self _ v0
    have nx : 9 < sv_ v j → j + 1 + 1 ≤ nd_ v := fun q => by
      have := nd_gt v0 v1 (j := j + 1) (by rw [sv_s]; omega)
      omega
    have ex : sv_ v j ≤ 9 → nd_ v = j + 1 := fun q => nd_at v0 v1 j1 q
    have K := fun e : nd_ v = j + 1 => lp_X9_wn2 (bc := bc) (bs := bs) (h0 := h) (b := 10 ^ j) hd v0 v1 u0 hl k (j + 1) 0 h (Int.le_refl _) (by omega) (by rw [tnp_0]; exact T) (UM_.rf h)
    have e9 : dd10 (j + 1) = 10 ^ j := rfl
    rw [e9] at K
    generalize (10 : Int) ^ j = q at *
    have hG := T.1
    refine s_iload_n dX9_writesNumber_2 rfl ?_
    refine s_iload_n dX9_writesNumber_3 rfl ?_
    refine s_idiv dX9_writesNumber_4 ⟨by omega, by omega⟩ ⟨by omega, by omega⟩ (by omega) (by omega) ?_
    rw [e3]
    refine s_bipush dX9_writesNumber_5 (by decide) ?_
    refine s_icmp_le (tgt := 18) dX9_writesNumber_7 (by decide) ⟨by omega, by omega⟩ ⟨by omega, by omega⟩ (fun c1 => ?_) (fun c1 => ?_)
    · refine s_iload_n dX9_writesNumber_18 rfl ?_
      refine s_istore_n dX9_writesNumber_19 (by decide) rfl (L' := [_, _, _, _]) rfl ?_
      exact K (ex (by omega))
    · exact absurd (nx (by omega)) (by omega)
  | succ m ih =>
    intro j jm j1
    have nb := nd_bd v
    have jn : j < 10 := by omega
    have pb := p10_bd j jn
    have pn : (10 : Int) ^ (j + 1) = 10 ^ j * 10 := Int.pow_succ _ _
    have e3 : v.tdiv (10 ^ j) = sv_ v j := sv_td v0 j
    have s0 : 0 ≤ sv_ v j := sv_nn v0 j
    have s1 : sv_ v j ≤ v := Int.ediv_le_self _ v0
    have nx : 9 < sv_ v j → j + 1 + 1 ≤ nd_ v := fun q => by
      have := nd_gt v0 v1 (j := j + 1) (by rw [sv_s]; omega)
      omega
    have ex : sv_ v j ≤ 9 → nd_ v = j + 1 := fun q => nd_at v0 v1 j1 q
    have K := fun e : nd_ v = j + 1 => lp_X9_wn2 (bc := bc) (bs := bs) (h0 := h) (b := 10 ^ j) hd v0 v1 u0 hl k (j + 1) 0 h (Int.le_refl _) (by omega) (by rw [tnp_0]; exact T) (UM_.rf h)
    have e9 : dd10 (j + 1) = 10 ^ j := rfl
    rw [e9] at K
    have ihj := ih (j + 1)
    rw [pn] at ihj
    generalize (10 : Int) ^ j = q at *
    have hG := T.1
    refine s_iload_n dX9_writesNumber_2 rfl ?_
    refine s_iload_n dX9_writesNumber_3 rfl ?_
    refine s_idiv dX9_writesNumber_4 ⟨by omega, by omega⟩ ⟨by omega, by omega⟩ (by omega) (by omega) ?_
    rw [e3]
    refine s_bipush dX9_writesNumber_5 (by decide) ?_
    refine s_icmp_le (tgt := 18) dX9_writesNumber_7 (by decide) ⟨by omega, by omega⟩ ⟨by omega, by omega⟩ (fun c1 => ?_) (fun c1 => ?_)
    · refine s_iload_n dX9_writesNumber_18 rfl ?_
      refine s_istore_n dX9_writesNumber_19 (by decide) rfl (L' := [_, _, _, _]) rfl ?_
      exact K (ex (by omega))
    · refine s_iload_n dX9_writesNumber_10 rfl ?_
      refine s_bipush dX9_writesNumber_11 (by decide) ?_
      refine s_imul dX9_writesNumber_13 ?_
      refine s_istore_n dX9_writesNumber_14 (by decide) rfl (L' := [_, _, _, _]) rfl ?_
      refine s_goto (tgt := 2) dX9_writesNumber_15 (by decide) ?_
      exact ihj (by omega) (Or.inr (by rw [sv_s]; omega))

set_option maxRecDepth 100000 in
set_option maxHeartbeats 4000000 in
theorem c_X9_writesNumber {v : Int} (hd : 1 ≤ d) (T : TM_ h u) (u0 : 0 ≤ u.1) (hl : u.1 + 10 ≤ 300) (v0 : 0 ≤ v) (v1 : v < 2147483648) (k : ∀ h1 : PH, TM_ h1 (tn_ u v) → UM_ h h1 → Q.1 none nN h1) : Cl_ yX9_writesNumber MX9_writesNumber d bc bs [(2, 196), (0, v)] nN h Q := by
  refine s_enter pn_X9 rfl (Nat.le_of_ble_eq_true rfl) (L := [(2, _), (0, _), (9, 0), (9, 0)]) rfl ?_
  have nb := nd_bd v
  have hG := T.1
  have K := lp_X9_wn1 (bc := bc) (bs := bs) hd v0 v1 T u0 (by omega) k 9 0 ⟨by omega, by omega⟩ (Or.inl rfl)
  refine s_iconst dX9_writesNumber_0 ?_
  refine s_istore_n dX9_writesNumber_1 (by decide) rfl (L' := [_, _, _, _]) rfl ?_
  exact K
theorem zwt_EE (z : PH) (u v : UT) : ZE (zwt z u) (zwt z v) := by
  have e := zwt_E (zwt z u) v
  rw [zwt_zwt] at e
  exact e
theorem rm_t {h h1 z : PH} {u v : UT} (M : MR_ h1 (zwt z v)) (R : RM_ h (zwt z u)) (f : UM_ h h1) : RM_ h1 (zwt z v) := rm_e (zwt_EE z u v) (rm_u R f)
set_option maxRecDepth 100000 in
set_option maxHeartbeats 4000000 in
theorem lp_X9_wrA  (hd : 10 ≤ d) {p : Int} (p0 : 0 ≤ p) (p1 : p < z 0 1) {s : Int} (b11 : 1 ≤ z 11 p ∧ z 11 p ≤ 6) (bL : lq_ (z (30 + p)) (z 11 p).toNat) (K : ∀ (i : Int) (h : PH), OKT (rnm z p (z 11 p).toNat) 6 → MR_ h (zwt z (rnm z p (z 11 p).toNat)) → RM_ h (zwt z (rnm z p (z 11 p).toNat)) → FM h0 h → h 196 0 = 0 → S_ MX9_write d bc bs Q 72 [(2, 196), (0, p), (0, s), (0, i), (9, 0)] [] nN h) : ∀ (m : Nat) (i : Int) (u : UT) (h : PH), (0 ≤ i) → (i + m = z 11 p) → (u = rnm z p i.toNat) → (OKT u i) → (MR_ h (zwt z u)) → (RM_ h (zwt z u)) → (FM h0 h) → (h 196 0 = 0) → S_ MX9_write d bc bs Q 39 [(2, 196), (0, p), (0, s), (0, i), (9, 0)] [] nN h := by
  intro m
  induction m with
  | zero =>
    intro i u h i0 im hu ok M R fm th
    have hG := M.1
    have T := tm_of M
    have u0 := ok.1.1
    have hPz := (mr_i M).2.2.1
    have hNz := (mr_i M).2.2.2.1
    rw [zwt_ne (x := 0) (by omega) (by omega)] at hPz hNz
    refine s_iload_n dX9_write_39 rfl ?_
    refine s_aload_n dX9_write_40 rfl ?_
    refine s_getr dX9_write_41 fl_X9_22 kl_7 (by decide) rfl io_196 (z := 9) rfl (rf_7_9 hG.1 io_196) (rk_7_9 io_196).1 ?_
    refine s_iload_n dX9_write_44 rfl ?_
    refine s_iaload dX9_write_45 (rk_7_9 io_196) (by omega) (by omega) ?_
    rw [M.2.2.2.2.2.1 p p0 (by rw [zwt_ne (x := 0) (by omega) (by omega)]; exact p1), zwt_ne (x := 30 + p) (by omega) (by omega), zwt_ne (x := 11) (by omega) (by omega)]
    refine s_callS (d' := d - 1) (bc' := 0) (bs' := 0) (as := [_]) dX9_write_46 sf_X9_287 (dd_ (by omega) (by decide)) ⟨Nat.zero_le _, Nat.zero_le _⟩ rfl rfl (Nat.le_of_ble_eq_true rfl) ?_
    refine c_X9_lettersOf (by omega) bL ?_
    rw [show (((z 11 p).toNat : Nat) : Int) = z 11 p by omega]
    refine s_icmp_ge (tgt := 72) dX9_write_49 (by decide) (by first | exact hG.2 _ _ | exact b01_in _ | assumption | exact ⟨by omega, by omega⟩) (by first | exact hG.2 _ _ | exact b01_in _ | assumption | exact ⟨by omega, by omega⟩) (fun c1 => ?_) (fun c1 => ?_)
    · have e : i = z 11 p := by omega
      rw [e] at hu
      rw [hu] at ok M R
      exact K i h (okt_le ok (by omega)) M R fm th
    · exact absurd c1 (by omega)
  | succ m ih =>
    intro i u h i0 im hu ok M R fm th
    have hG := M.1
    have T := tm_of M
    have u0 := ok.1.1
    have hPz := (mr_i M).2.2.1
    have hNz := (mr_i M).2.2.2.1
    rw [zwt_ne (x := 0) (by omega) (by omega)] at hPz hNz
    refine s_iload_n dX9_write_39 rfl ?_
    refine s_aload_n dX9_write_40 rfl ?_
    refine s_getr dX9_write_41 fl_X9_22 kl_7 (by decide) rfl io_196 (z := 9) rfl (rf_7_9 hG.1 io_196) (rk_7_9 io_196).1 ?_
    refine s_iload_n dX9_write_44 rfl ?_
    refine s_iaload dX9_write_45 (rk_7_9 io_196) (by omega) (by omega) ?_
    rw [M.2.2.2.2.2.1 p p0 (by rw [zwt_ne (x := 0) (by omega) (by omega)]; exact p1), zwt_ne (x := 30 + p) (by omega) (by omega), zwt_ne (x := 11) (by omega) (by omega)]
    refine s_callS (d' := d - 1) (bc' := 0) (bs' := 0) (as := [_]) dX9_write_46 sf_X9_287 (dd_ (by omega) (by decide)) ⟨Nat.zero_le _, Nat.zero_le _⟩ rfl rfl (Nat.le_of_ble_eq_true rfl) ?_
    refine c_X9_lettersOf (by omega) bL ?_
    rw [show (((z 11 p).toNat : Nat) : Int) = z 11 p by omega]
    refine s_icmp_ge (tgt := 72) dX9_write_49 (by decide) (by first | exact hG.2 _ _ | exact b01_in _ | assumption | exact ⟨by omega, by omega⟩) (by first | exact hG.2 _ _ | exact b01_in _ | assumption | exact ⟨by omega, by omega⟩) (fun c1 => ?_) (fun c1 => ?_)
    · exact absurd c1 (by omega)
    · refine s_aload_n dX9_write_52 rfl ?_
      refine s_aload_n dX9_write_53 rfl ?_
      refine s_getr dX9_write_54 fl_X9_22 kl_7 (by decide) rfl io_196 (z := 9) rfl (rf_7_9 hG.1 io_196) (rk_7_9 io_196).1 ?_
      refine s_iload_n dX9_write_57 rfl ?_
      refine s_iaload dX9_write_58 (rk_7_9 io_196) (by omega) (by omega) ?_
      rw [M.2.2.2.2.2.1 p p0 (by rw [zwt_ne (x := 0) (by omega) (by omega)]; exact p1), zwt_ne (x := 30 + p) (by omega) (by omega), zwt_ne (x := 11) (by omega) (by omega)]
      refine s_iload_n dX9_write_59 rfl ?_
      refine s_callS (d' := d - 1) (bc' := 0) (bs' := 0) (as := [_, _]) dX9_write_60 sf_X9_297 (dd_ (by omega) (by decide)) ⟨Nat.zero_le _, Nat.zero_le _⟩ rfl rfl (Nat.le_of_ble_eq_true rfl) ?_
      refine c_X9_letter (by omega) (by omega) bL ⟨by omega, by omega⟩ ?_
      rw [if_pos (by omega)]
      have bl := bL i i0 (by omega)
      refine s_callV (d' := d - 1) (bc' := 0) (bs' := 0) (as := [_]) dX9_write_63 vf_X9_451 (dd_ (by omega) (by decide)) ⟨Nat.zero_le _, Nat.zero_le _⟩ rfl rfl (Nat.le_of_ble_eq_true rfl) kl_7 rfl io_196 ?_
      refine c_X9_writes T u0 (by have := ok.1.2; omega) ⟨by omega, by omega⟩ (fun hh T f9 => ?_)
      have hG1 := T.1
      have ok := okt_c (c := z (30 + p) i) ok (by omega) (by omega)
      have u0 := ok.1.1
      have M := mr_tx M T ok (by omega) f9
      rw [zwt_zwt] at M
      have R := rm_t M R f9
      have fm := fm.tr (um_fm f9)
      have th := (f9 _ _ (by omega) (by omega)).trans th
      refine s_iinc dX9_write_66 rfl (by decide) rfl (L' := [_, _, _, _, _]) rfl ?_
      refine s_goto (tgt := 39) dX9_write_69 (by decide) ?_
      refine ih (i + 1) (tc_ u (z (30 + p) i)) _ (by omega) (by omega) ?_ ok M R fm th
      rw [hu, show (i + 1).toNat = i.toNat + 1 by omega]
      show tc_ _ _ = tc_ _ (z (30 + p) ((i.toNat : Nat) : Int))
      rw [toN_ i0]
set_option maxRecDepth 100000 in
set_option maxHeartbeats 4000000 in
theorem lp_X9_wrG  (hd : 10 ≤ d) {p : Int} (p0 : 0 ≤ p) (p1 : p < z 0 1) {s : Int} {U : UT} (K : ∀ (i : Int) (h : PH), OKT U 286 → MR_ h (zwt z U) → RM_ h (zwt z U) → FM h0 h → h 196 0 = 0 → S_ MX9_write d bc bs Q 173 [(2, 196), (0, p), (0, s), (0, i), (9, 0)] [] nN h) : ∀ (m : Nat) (i : Int) (u : UT) (h : PH), (0 ≤ i) → (i + m = z 0 2) → (rgf z p m i u = U) → (OKT u (22 + 22 * i)) → (MR_ h (zwt z u)) → (RM_ h (zwt z u)) → (FM h0 h) → (h 196 0 = 0) → S_ MX9_write d bc bs Q 123 [(2, 196), (0, p), (0, s), (0, i), (9, 0)] [] nN h := by
  intro m
  induction m with
  | zero =>
    intro i u h i0 im hu ok M R fm th
    have hG := M.1
    have T := tm_of M
    have u0 := ok.1.1
    have hPz := (mr_i M).2.2.1
    have hNz := (mr_i M).2.2.2.1
    rw [zwt_ne (x := 0) (by omega) (by omega)] at hPz hNz
    have en := M.2.1.2.2
    rw [zwt_ne (x := 0) (by omega) (by omega)] at en
    refine s_iload_n dX9_write_123 rfl ?_
    refine s_aload_n dX9_write_124 rfl ?_
    refine s_geti dX9_write_125 fl_X9_275 kl_7 (by decide) rfl io_196 (z := 7) rfl ?_
    rw [en]
    refine s_icmp_ge (tgt := 173) dX9_write_128 (by decide) (by first | exact hG.2 _ _ | exact b01_in _ | assumption | exact ⟨by omega, by omega⟩) (by first | exact hG.2 _ _ | exact b01_in _ | assumption | exact ⟨by omega, by omega⟩) (fun c1 => ?_) (fun c1 => ?_)
    · have hu : u = U := hu
      rw [hu] at ok M R
      exact K i h (okt_le ok (by omega)) M R fm th
    · exact absurd c1 (by omega)
  | succ m ih =>
    intro i u h i0 im hu ok M R fm th
    have hG := M.1
    have T := tm_of M
    have u0 := ok.1.1
    have hPz := (mr_i M).2.2.1
    have hNz := (mr_i M).2.2.2.1
    rw [zwt_ne (x := 0) (by omega) (by omega)] at hPz hNz
    have en := M.2.1.2.2
    rw [zwt_ne (x := 0) (by omega) (by omega)] at en
    refine s_iload_n dX9_write_123 rfl ?_
    refine s_aload_n dX9_write_124 rfl ?_
    refine s_geti dX9_write_125 fl_X9_275 kl_7 (by decide) rfl io_196 (z := 7) rfl ?_
    rw [en]
    refine s_icmp_ge (tgt := 173) dX9_write_128 (by decide) (by first | exact hG.2 _ _ | exact b01_in _ | assumption | exact ⟨by omega, by omega⟩) (by first | exact hG.2 _ _ | exact b01_in _ | assumption | exact ⟨by omega, by omega⟩) (fun c1 => ?_) (fun c1 => ?_)
    · exact absurd c1 (by omega)
    · refine s_aload_n dX9_write_131 rfl ?_
      refine s_iload_n dX9_write_132 rfl ?_
      refine s_iload_n dX9_write_133 rfl ?_
      refine s_callV (d' := d - 1) (bc' := 0) (bs' := 0) (as := [_, _]) dX9_write_134 vf_X9_427 (dd_ (by omega) (by decide)) ⟨Nat.zero_le _, Nat.zero_le _⟩ rfl rfl (Nat.le_of_ble_eq_true rfl) kl_7 rfl io_196 ?_
      have tk := ztk_bd (mr_i M) i0 (by rw [zwt_ne (x := 0) (by omega) (by omega)]; omega) p0 (by rw [zwt_ne (x := 0) (by omega) (by omega)]; exact p1)
      rw [ztk_e (zwt_E z u)] at tk
      refine c_X9_takesOf (by omega) M R i0 (by rw [zwt_ne (x := 0) (by omega) (by omega)]; omega) p0 (by rw [zwt_ne (x := 0) (by omega) (by omega)]; exact p1) (fun hhG1 ghG1 fhG1 => ?_)
      have hG1 := ghG1
      have M := sc_M M ghG1 (ft_sc fhG1)
      have T := tm_of M
      have R := ft_rm fhG1 R
      have fm := fm.tr (sc_fm (ft_sc fhG1))
      have th := (sc_0 (ft_sc fhG1)).trans th
      rw [ztk_e (zwt_E z u)]
      refine s_istore dX9_write_137 (by decide) rfl (L' := [_, _, _, _, _]) rfl ?_
      refine s_iload dX9_write_139 rfl ?_
      refine s_if_le (tgt := 167) dX9_write_141 (by decide) (by first | exact hG1.2 _ _ | exact hG.2 _ _ | exact b01_in _ | assumption | exact ⟨by omega, by omega⟩) (fun c2 => ?_) (fun c2 => ?_)
      · refine s_iinc dX9_write_167 rfl (by decide) rfl (L' := [_, _, _, _, _]) rfl ?_
        refine s_goto (tgt := 123) dX9_write_170 (by decide) ?_
        have e1 : rg1 z p i u = u := if_neg (by omega)
        refine s_fg (L' := [(2, 196), (0, p), (0, s), (0, i + 1), (9, 0)]) ⟨Or.inr rfl, Or.inr rfl, Or.inr rfl, Or.inr rfl, Or.inl rfl, trivial⟩ ?_
        exact ih (i + 1) u _ (by omega) (by omega) (by rw [← hu]; show _ = rgf z p m (i + 1) (rg1 z p i u); rw [e1]) (okt_le ok (by omega)) M R fm th
      · refine s_aload_n dX9_write_144 rfl ?_
        refine s_bipush dX9_write_145 (by decide) ?_
        refine s_callV (d' := d - 1) (bc' := 0) (bs' := 0) (as := [_]) dX9_write_147 vf_X9_451 (dd_ (by omega) (by decide)) ⟨Nat.zero_le _, Nat.zero_le _⟩ rfl rfl (Nat.le_of_ble_eq_true rfl) kl_7 rfl io_196 ?_
        refine c_X9_writes T u0 (by have := ok.1.2; omega) ⟨by omega, by omega⟩ (fun hh T f9 => ?_)
        have hG2 := T.1
        have ok := okt_c (c := 32) ok (by decide) (by decide)
        have u0 := ok.1.1
        have M := mr_tx M T ok (by omega) f9
        rw [zwt_zwt] at M
        have R := rm_t M R f9
        have fm := fm.tr (um_fm f9)
        have th := (f9 _ _ (by omega) (by omega)).trans th
        refine s_aload_n dX9_write_150 rfl ?_
        refine s_iload_n dX9_write_151 rfl ?_
        refine s_callV (d' := d - 1) (bc' := 0) (bs' := 0) (as := [_]) dX9_write_152 vf_X9_454 (dd_ (by omega) (by decide)) ⟨Nat.zero_le _, Nat.zero_le _⟩ rfl rfl (Nat.le_of_ble_eq_true rfl) kl_7 rfl io_196 ?_
        refine c_X9_writesNumber (by omega) T u0 (by have := ok.1.2; omega) i0 (by omega) (fun hh T f9 => ?_)
        have hG3 := T.1
        have ok := okt_n (v := i) ok
        have u0 := ok.1.1
        have M := mr_tx M T ok (by omega) f9
        rw [zwt_zwt] at M
        have R := rm_t M R f9
        have fm := fm.tr (um_fm f9)
        have th := (f9 _ _ (by omega) (by omega)).trans th
        refine s_aload_n dX9_write_155 rfl ?_
        refine s_bipush dX9_write_156 (by decide) ?_
        refine s_callV (d' := d - 1) (bc' := 0) (bs' := 0) (as := [_]) dX9_write_158 vf_X9_451 (dd_ (by omega) (by decide)) ⟨Nat.zero_le _, Nat.zero_le _⟩ rfl rfl (Nat.le_of_ble_eq_true rfl) kl_7 rfl io_196 ?_
        refine c_X9_writes T u0 (by have := ok.1.2; omega) ⟨by omega, by omega⟩ (fun hh T f9 => ?_)
        have hG4 := T.1
        have ok := okt_c (c := 58) ok (by decide) (by decide)
        have u0 := ok.1.1
        have M := mr_tx M T ok (by omega) f9
        rw [zwt_zwt] at M
        have R := rm_t M R f9
        have fm := fm.tr (um_fm f9)
        have th := (f9 _ _ (by omega) (by omega)).trans th
        refine s_aload_n dX9_write_161 rfl ?_
        refine s_iload dX9_write_162 rfl ?_
        refine s_callV (d' := d - 1) (bc' := 0) (bs' := 0) (as := [_]) dX9_write_164 vf_X9_454 (dd_ (by omega) (by decide)) ⟨Nat.zero_le _, Nat.zero_le _⟩ rfl rfl (Nat.le_of_ble_eq_true rfl) kl_7 rfl io_196 ?_
        refine c_X9_writesNumber (by omega) T u0 (by have := ok.1.2; omega) tk.1 (by omega) (fun hh T f9 => ?_)
        have hG5 := T.1
        have ok := okt_n (v := ztk z i p) ok
        have u0 := ok.1.1
        have M := mr_tx M T ok (by omega) f9
        rw [zwt_zwt] at M
        have R := rm_t M R f9
        have fm := fm.tr (um_fm f9)
        have th := (f9 _ _ (by omega) (by omega)).trans th
        refine s_iinc dX9_write_167 rfl (by decide) rfl (L' := [_, _, _, _, _]) rfl ?_
        refine s_goto (tgt := 123) dX9_write_170 (by decide) ?_
        have e1 : rg1 z p i u = tn_ (tc_ (tn_ (tc_ u 32) i) 58) (ztk z i p) := if_pos (by omega)
        refine s_fg (L' := [(2, 196), (0, p), (0, s), (0, i + 1), (9, 0)]) ⟨Or.inr rfl, Or.inr rfl, Or.inr rfl, Or.inr rfl, Or.inl rfl, trivial⟩ ?_
        exact ih (i + 1) _ _ (by omega) (by omega) (by rw [← hu]; show _ = rgf z p m (i + 1) (rg1 z p i u); rw [e1]) (okt_le ok (by omega)) M R fm th
set_option maxRecDepth 100000 in
set_option maxHeartbeats 4000000 in
theorem rp_X9_wrE (hd : 10 ≤ d) {p i s : Int} (p0 : 0 ≤ p) (p1 : p < z 0 1) {U : UT} (ok : OKT U 286) (M : MR_ h (zwt z U)) (R : RM_ h (zwt z U)) (fm : FM h0 h) (th : h 196 0 = 0) (k : MK_ Q h0 (zwt z (rih z p U)) 0 (rih z p U).1) : S_ MX9_write d bc bs Q 173 [(2, 196), (0, p), (0, s), (0, i), (9, 0)] [] nN h := by
  have hG := M.1
  have T := tm_of M
  have u0 := ok.1.1
  have hPz := (mr_i M).2.2.1
  have hNz := (mr_i M).2.2.2.1
  rw [zwt_ne (x := 0) (by omega) (by omega)] at hPz hNz
  refine s_aload_n dX9_write_173 rfl ?_
  refine s_iload_n dX9_write_174 rfl ?_
  refine s_callV (d' := d - 1) (bc' := 0) (bs' := 0) (as := [_]) dX9_write_175 vf_X9_430 (dd_ (by omega) (by decide)) ⟨Nat.zero_le _, Nat.zero_le _⟩ rfl rfl (Nat.le_of_ble_eq_true rfl) kl_7 rfl io_196 ?_
  have ti := zih_bd (mr_i M) p0 (by rw [zwt_ne (x := 0) (by omega) (by omega)]; exact p1)
  rw [zih_e (zwt_E z U)] at ti
  refine c_X9_intestateOf (by omega) M R p0 (by rw [zwt_ne (x := 0) (by omega) (by omega)]; exact p1) (fun hhG1 ghG1 fhG1 => ?_)
  have hG1 := ghG1
  have M := sc_M M ghG1 (ft_sc fhG1)
  have T := tm_of M
  have R := ft_rm fhG1 R
  have fm := fm.tr (sc_fm (ft_sc fhG1))
  have th := (sc_0 (ft_sc fhG1)).trans th
  rw [zih_e (zwt_E z U)]
  refine s_istore_n dX9_write_178 (by decide) rfl (L' := [_, _, _, _, _]) rfl ?_
  refine s_iload_n dX9_write_179 rfl ?_
  refine s_if_le (tgt := 206) dX9_write_180 (by decide) (by first | exact hG1.2 _ _ | exact hG.2 _ _ | exact b01_in _ | assumption | exact ⟨by omega, by omega⟩) (fun c1 => ?_) (fun c1 => ?_)
  · refine s_aload_n dX9_write_206 rfl ?_
    refine s_geti dX9_write_207 fl_X9_448 kl_7 (by decide) rfl io_196 (z := 44) rfl ?_
    rw [T.2.1]
    have e1 : rih z p U = U := if_neg (by omega)
    rw [e1] at k
    exact s_ireturn dX9_write_210 rfl (k _ M fm th)
  · refine s_aload_n dX9_write_183 rfl ?_
    refine s_bipush dX9_write_184 (by decide) ?_
    refine s_callV (d' := d - 1) (bc' := 0) (bs' := 0) (as := [_]) dX9_write_186 vf_X9_451 (dd_ (by omega) (by decide)) ⟨Nat.zero_le _, Nat.zero_le _⟩ rfl rfl (Nat.le_of_ble_eq_true rfl) kl_7 rfl io_196 ?_
    refine c_X9_writes T u0 (by have := ok.1.2; omega) ⟨by omega, by omega⟩ (fun hh T f9 => ?_)
    have hG2 := T.1
    have ok := okt_c (c := 32) ok (by decide) (by decide)
    have u0 := ok.1.1
    have M := mr_tx M T ok (by omega) f9
    rw [zwt_zwt] at M
    have R := rm_t M R f9
    have fm := fm.tr (um_fm f9)
    have th := (f9 _ _ (by omega) (by omega)).trans th
    refine s_aload_n dX9_write_189 rfl ?_
    refine s_bipush dX9_write_190 (by decide) ?_
    refine s_callV (d' := d - 1) (bc' := 0) (bs' := 0) (as := [_]) dX9_write_192 vf_X9_451 (dd_ (by omega) (by decide)) ⟨Nat.zero_le _, Nat.zero_le _⟩ rfl rfl (Nat.le_of_ble_eq_true rfl) kl_7 rfl io_196 ?_
    refine c_X9_writes T u0 (by have := ok.1.2; omega) ⟨by omega, by omega⟩ (fun hh T f9 => ?_)
    have hG3 := T.1
    have ok := okt_c (c := 105) ok (by decide) (by decide)
    have u0 := ok.1.1
    have M := mr_tx M T ok (by omega) f9
    rw [zwt_zwt] at M
    have R := rm_t M R f9
    have fm := fm.tr (um_fm f9)
    have th := (f9 _ _ (by omega) (by omega)).trans th
    refine s_aload_n dX9_write_195 rfl ?_
    refine s_bipush dX9_write_196 (by decide) ?_
    refine s_callV (d' := d - 1) (bc' := 0) (bs' := 0) (as := [_]) dX9_write_198 vf_X9_451 (dd_ (by omega) (by decide)) ⟨Nat.zero_le _, Nat.zero_le _⟩ rfl rfl (Nat.le_of_ble_eq_true rfl) kl_7 rfl io_196 ?_
    refine c_X9_writes T u0 (by have := ok.1.2; omega) ⟨by omega, by omega⟩ (fun hh T f9 => ?_)
    have hG4 := T.1
    have ok := okt_c (c := 58) ok (by decide) (by decide)
    have u0 := ok.1.1
    have M := mr_tx M T ok (by omega) f9
    rw [zwt_zwt] at M
    have R := rm_t M R f9
    have fm := fm.tr (um_fm f9)
    have th := (f9 _ _ (by omega) (by omega)).trans th
    refine s_aload_n dX9_write_201 rfl ?_
    refine s_iload_n dX9_write_202 rfl ?_
    refine s_callV (d' := d - 1) (bc' := 0) (bs' := 0) (as := [_]) dX9_write_203 vf_X9_454 (dd_ (by omega) (by decide)) ⟨Nat.zero_le _, Nat.zero_le _⟩ rfl rfl (Nat.le_of_ble_eq_true rfl) kl_7 rfl io_196 ?_
    refine c_X9_writesNumber (by omega) T u0 (by have := ok.1.2; omega) ti.1 (by omega) (fun hh T f9 => ?_)
    have hG5 := T.1
    have ok := okt_n (v := zih z p) ok
    have u0 := ok.1.1
    have M := mr_tx M T ok (by omega) f9
    rw [zwt_zwt] at M
    have R := rm_t M R f9
    have fm := fm.tr (um_fm f9)
    have th := (f9 _ _ (by omega) (by omega)).trans th
    refine s_aload_n dX9_write_206 rfl ?_
    refine s_geti dX9_write_207 fl_X9_448 kl_7 (by decide) rfl io_196 (z := 44) rfl ?_
    rw [T.2.1]
    have e1 : rih z p U = tn_ (ti_ U) (zih z p) := if_pos (by omega)
    rw [e1] at k
    exact s_ireturn dX9_write_210 rfl (k _ M fm th)
set_option maxRecDepth 100000 in
set_option maxHeartbeats 4000000 in
theorem rp_X9_wrB (hd : 10 ≤ d) {p i : Int} (p0 : 0 ≤ p) (p1 : p < z 0 1) (ok : OKT (rnm z p (z 11 p).toNat) 6) (M : MR_ h (zwt z (rnm z p (z 11 p).toNat))) (R : RM_ h (zwt z (rnm z p (z 11 p).toNat))) (fm : FM h0 h) (th : h 196 0 = 0) (k : MK_ Q h0 (zwt z (rep z p)) 0 (rep z p).1) : S_ MX9_write d bc bs Q 72 [(2, 196), (0, p), (0, zta z p), (0, i), (9, 0)] [] nN h := by
  have hG := M.1
  have T := tm_of M
  have u0 := ok.1.1
  have hPz := (mr_i M).2.2.1
  have hNz := (mr_i M).2.2.2.1
  rw [zwt_ne (x := 0) (by omega) (by omega)] at hPz hNz
  have tb := zta_bd (mr_i M) p0 (by rw [zwt_ne (x := 0) (by omega) (by omega)]; exact p1)
  rw [zta_e (zwt_E z _)] at tb
  refine s_aload_n dX9_write_72 rfl ?_
  refine s_bipush dX9_write_73 (by decide) ?_
  refine s_callV (d' := d - 1) (bc' := 0) (bs' := 0) (as := [_]) dX9_write_75 vf_X9_451 (dd_ (by omega) (by decide)) ⟨Nat.zero_le _, Nat.zero_le _⟩ rfl rfl (Nat.le_of_ble_eq_true rfl) kl_7 rfl io_196 ?_
  refine c_X9_writes T u0 (by have := ok.1.2; omega) ⟨by omega, by omega⟩ (fun hh T f9 => ?_)
  have hG1 := T.1
  have ok := okt_c (c := 32) ok (by decide) (by decide)
  have u0 := ok.1.1
  have M := mr_tx M T ok (by omega) f9
  rw [zwt_zwt] at M
  have R := rm_t M R f9
  have fm := fm.tr (um_fm f9)
  have th := (f9 _ _ (by omega) (by omega)).trans th
  refine s_aload_n dX9_write_78 rfl ?_
  refine s_iload_n dX9_write_79 rfl ?_
  refine s_callV (d' := d - 1) (bc' := 0) (bs' := 0) (as := [_]) dX9_write_80 vf_X9_454 (dd_ (by omega) (by decide)) ⟨Nat.zero_le _, Nat.zero_le _⟩ rfl rfl (Nat.le_of_ble_eq_true rfl) kl_7 rfl io_196 ?_
  refine c_X9_writesNumber (by omega) T u0 (by have := ok.1.2; omega) tb.1 (by omega) (fun hh T f9 => ?_)
  have hG2 := T.1
  have ok := okt_n (v := zta z p) ok
  have u0 := ok.1.1
  have M := mr_tx M T ok (by omega) f9
  rw [zwt_zwt] at M
  have R := rm_t M R f9
  have fm := fm.tr (um_fm f9)
  have th := (f9 _ _ (by omega) (by omega)).trans th
  refine s_aload_n dX9_write_83 rfl ?_
  refine s_iload_n dX9_write_84 rfl ?_
  refine s_callV (d' := d - 1) (bc' := 0) (bs' := 0) (as := [_]) dX9_write_85 vf_X9_308 (dd_ (by omega) (by decide)) ⟨Nat.zero_le _, Nat.zero_le _⟩ rfl rfl (Nat.le_of_ble_eq_true rfl) kl_7 rfl io_196 ?_
  refine c_X9_isDead M p0 (by omega) ?_
  have ed : zdd (zwt z (tn_ (tc_ (rnm z p (z 11 p).toNat) 32) (zta z p))) p = zdd z p := by unfold zdd; rw [zwt_ne (x := 1) (by omega) (by omega)]
  rw [ed]
  refine s_if_eq (tgt := 121) dX9_write_88 (by decide) (by first | exact hG2.2 _ _ | exact hG.2 _ _ | exact b01_in _ | assumption | exact ⟨by omega, by omega⟩) (fun c1 => ?_) (fun c1 => ?_)
  · have c1 := b01_0.mp c1
    refine s_iconst dX9_write_121 ?_
    refine s_istore_n dX9_write_122 (by decide) rfl (L' := [_, _, _, _, _]) rfl ?_
    have er : rhd z p = _ := rdd_0 (by omega)
    rw [← er] at ok M R
    exact lp_X9_wrG hd p0 p1 (U := rgf z p (z 0 2).toNat 0 (rhd z p)) (fun i h ok M R fm th => rp_X9_wrE hd p0 p1 ok M R fm th k) (z 0 2).toNat 0 (rhd z p) _ (by omega) (by omega) rfl (okt_le ok (by omega)) M R fm th
  · have c1 := b01_n.mp c1
    refine s_aload_n dX9_write_91 rfl ?_
    refine s_bipush dX9_write_92 (by decide) ?_
    refine s_callV (d' := d - 1) (bc' := 0) (bs' := 0) (as := [_]) dX9_write_94 vf_X9_451 (dd_ (by omega) (by decide)) ⟨Nat.zero_le _, Nat.zero_le _⟩ rfl rfl (Nat.le_of_ble_eq_true rfl) kl_7 rfl io_196 ?_
    refine c_X9_writes T u0 (by have := ok.1.2; omega) ⟨by omega, by omega⟩ (fun hh T f9 => ?_)
    have hG3 := T.1
    have ok := okt_c (c := 32) ok (by decide) (by decide)
    have u0 := ok.1.1
    have M := mr_tx M T ok (by omega) f9
    rw [zwt_zwt] at M
    have R := rm_t M R f9
    have fm := fm.tr (um_fm f9)
    have th := (f9 _ _ (by omega) (by omega)).trans th
    refine s_aload_n dX9_write_97 rfl ?_
    refine s_bipush dX9_write_98 (by decide) ?_
    refine s_callV (d' := d - 1) (bc' := 0) (bs' := 0) (as := [_]) dX9_write_100 vf_X9_451 (dd_ (by omega) (by decide)) ⟨Nat.zero_le _, Nat.zero_le _⟩ rfl rfl (Nat.le_of_ble_eq_true rfl) kl_7 rfl io_196 ?_
    refine c_X9_writes T u0 (by have := ok.1.2; omega) ⟨by omega, by omega⟩ (fun hh T f9 => ?_)
    have hG4 := T.1
    have ok := okt_c (c := 100) ok (by decide) (by decide)
    have u0 := ok.1.1
    have M := mr_tx M T ok (by omega) f9
    rw [zwt_zwt] at M
    have R := rm_t M R f9
    have fm := fm.tr (um_fm f9)
    have th := (f9 _ _ (by omega) (by omega)).trans th
    refine s_aload_n dX9_write_103 rfl ?_
    refine s_bipush dX9_write_104 (by decide) ?_
    refine s_callV (d' := d - 1) (bc' := 0) (bs' := 0) (as := [_]) dX9_write_106 vf_X9_451 (dd_ (by omega) (by decide)) ⟨Nat.zero_le _, Nat.zero_le _⟩ rfl rfl (Nat.le_of_ble_eq_true rfl) kl_7 rfl io_196 ?_
    refine c_X9_writes T u0 (by have := ok.1.2; omega) ⟨by omega, by omega⟩ (fun hh T f9 => ?_)
    have hG5 := T.1
    have ok := okt_c (c := 101) ok (by decide) (by decide)
    have u0 := ok.1.1
    have M := mr_tx M T ok (by omega) f9
    rw [zwt_zwt] at M
    have R := rm_t M R f9
    have fm := fm.tr (um_fm f9)
    have th := (f9 _ _ (by omega) (by omega)).trans th
    refine s_aload_n dX9_write_109 rfl ?_
    refine s_bipush dX9_write_110 (by decide) ?_
    refine s_callV (d' := d - 1) (bc' := 0) (bs' := 0) (as := [_]) dX9_write_112 vf_X9_451 (dd_ (by omega) (by decide)) ⟨Nat.zero_le _, Nat.zero_le _⟩ rfl rfl (Nat.le_of_ble_eq_true rfl) kl_7 rfl io_196 ?_
    refine c_X9_writes T u0 (by have := ok.1.2; omega) ⟨by omega, by omega⟩ (fun hh T f9 => ?_)
    have hG6 := T.1
    have ok := okt_c (c := 97) ok (by decide) (by decide)
    have u0 := ok.1.1
    have M := mr_tx M T ok (by omega) f9
    rw [zwt_zwt] at M
    have R := rm_t M R f9
    have fm := fm.tr (um_fm f9)
    have th := (f9 _ _ (by omega) (by omega)).trans th
    refine s_aload_n dX9_write_115 rfl ?_
    refine s_bipush dX9_write_116 (by decide) ?_
    refine s_callV (d' := d - 1) (bc' := 0) (bs' := 0) (as := [_]) dX9_write_118 vf_X9_451 (dd_ (by omega) (by decide)) ⟨Nat.zero_le _, Nat.zero_le _⟩ rfl rfl (Nat.le_of_ble_eq_true rfl) kl_7 rfl io_196 ?_
    refine c_X9_writes T u0 (by have := ok.1.2; omega) ⟨by omega, by omega⟩ (fun hh T f9 => ?_)
    have hG7 := T.1
    have ok := okt_c (c := 100) ok (by decide) (by decide)
    have u0 := ok.1.1
    have M := mr_tx M T ok (by omega) f9
    rw [zwt_zwt] at M
    have R := rm_t M R f9
    have fm := fm.tr (um_fm f9)
    have th := (f9 _ _ (by omega) (by omega)).trans th
    refine s_iconst dX9_write_121 ?_
    refine s_istore_n dX9_write_122 (by decide) rfl (L' := [_, _, _, _, _]) rfl ?_
    have er : rhd z p = _ := rdd_1 (by omega)
    have ok : OKT (td_ _) _ := ok
    have M : MR_ _ (zwt z (td_ _)) := M
    have R : RM_ _ (zwt z (td_ _)) := R
    rw [← er] at ok M R
    exact lp_X9_wrG hd p0 p1 (U := rgf z p (z 0 2).toNat 0 (rhd z p)) (fun i h ok M R fm th => rp_X9_wrE hd p0 p1 ok M R fm th k) (z 0 2).toNat 0 (rhd z p) _ (by omega) (by omega) rfl (okt_le ok (by omega)) M R fm th
set_option maxRecDepth 100000 in
set_option maxHeartbeats 4000000 in
theorem c_X9_write {p : Int} (hd : 11 ≤ d) (M : MR_ h z) (hp : inI p) (k : 0 ≤ p → p < z 0 1 → MK_ Q h (zwt z (rep z p)) 0 (rep z p).1) (k1 : ¬ (0 ≤ p ∧ p < z 0 1) → MK_ Q h z 1 0) : Cl_ yX9_write MX9_write d bc bs [(2, 196), (0, p)] nN h Q := by
  refine s_enter pn_X9 rfl (Nat.le_of_ble_eq_true rfl) (L := [(2, _), (0, _), (9, 0), (9, 0), (9, 0)]) rfl ?_
  have hG := M.1
  have I := mr_i M
  have hT := I.2.1
  have hP := I.2.2.1
  have hN := I.2.2.2.1
  have nn := M.2.1
  refine s_aload_n dX9_write_0 rfl ?_
  refine s_aload_n dX9_write_1 rfl ?_
  refine s_iload_n dX9_write_2 rfl ?_
  refine s_callV (d' := d - 1) (bc' := 0) (bs' := 0) (as := [_]) dX9_write_3 vf_X9_290 (dd_ (by omega) (by decide)) ⟨Nat.zero_le _, Nat.zero_le _⟩ rfl rfl (Nat.le_of_ble_eq_true rfl) kl_7 rfl io_196 ?_
  refine c_X9_isPerson (by omega) M hp ?_
  refine s_if_eq (tgt := 13) dX9_write_6 (by decide) (by first | exact hG.2 _ _ | exact b01_in _ | assumption | exact ⟨by omega, by omega⟩) (fun c1 => ?_) (fun c1 => ?_)
  · have c1 := b01_0.mp c1
    refine s_iconst dX9_write_13 ?_
    refine s_putiG 0 dX9_write_14 fl_X9_98 kl_7 (by decide) rfl rfl io_196 (z := 0) rfl (by decide +kernel) hG (by first | exact hG.2 _ _ | exact b01_in _ | assumption | exact ⟨by omega, by omega⟩) (fun hG1 => ?_)
    obtain ⟨M, fm, th⟩ := mr_th M hG1
    refine s_aload_n dX9_write_17 rfl ?_
    refine s_geti dX9_write_18 fl_X9_98 kl_7 (by decide) rfl io_196 (z := 0) rfl ?_
    rw [th]
    refine s_if_le (tgt := 26) dX9_write_21 (by decide) (by first | exact hG1.2 _ _ | exact hG.2 _ _ | exact b01_in _ | assumption | exact ⟨by omega, by omega⟩) (fun c2 => ?_) (fun c2 => ?_)
    · exact absurd c2 (by decide)
    · refine s_iconst dX9_write_24 ?_
      exact s_ireturn dX9_write_25 rfl (k1 (by omega) _ M fm th)
  · have c1 := b01_n.mp c1
    refine s_iconst dX9_write_9 ?_
    refine s_goto (tgt := 14) dX9_write_10 (by decide) ?_
    refine s_putiG 0 dX9_write_14 fl_X9_98 kl_7 (by decide) rfl rfl io_196 (z := 0) rfl (by decide +kernel) hG (by first | exact hG.2 _ _ | exact b01_in _ | assumption | exact ⟨by omega, by omega⟩) (fun hG2 => ?_)
    obtain ⟨M, fm, th⟩ := mr_th M hG2
    refine s_aload_n dX9_write_17 rfl ?_
    refine s_geti dX9_write_18 fl_X9_98 kl_7 (by decide) rfl io_196 (z := 0) rfl ?_
    rw [th]
    refine s_if_le (tgt := 26) dX9_write_21 (by decide) (by first | exact hG2.2 _ _ | exact hG.2 _ _ | exact b01_in _ | assumption | exact ⟨by omega, by omega⟩) (fun c3 => ?_) (fun c3 => ?_)
    · refine s_aload_n dX9_write_26 rfl ?_
      refine s_iload_n dX9_write_27 rfl ?_
      refine s_callV (d' := d - 1) (bc' := 0) (bs' := 0) (as := [_]) dX9_write_28 vf_X9_433 (dd_ (by omega) (by decide)) ⟨Nat.zero_le _, Nat.zero_le _⟩ rfl rfl (Nat.le_of_ble_eq_true rfl) kl_7 rfl io_196 ?_
      refine c_X9_takesAllOf (by omega) M (by omega) (by omega) (fun h9 g9 f9 R => ?_)
      have hG3 := g9
      have M := sc_M M g9 f9
      have fm := fm.tr (sc_fm f9)
      have th := (sc_0 f9).trans th
      have bz := (mr_b M).2.2.2.2.1 p (by omega) (by omega)
      refine s_istore_n dX9_write_31 (by decide) rfl (L' := [_, _, _, _, _]) rfl ?_
      refine s_aload_n dX9_write_32 rfl ?_
      refine s_iconst dX9_write_33 ?_
      refine s_putiG 44 dX9_write_34 fl_X9_448 kl_7 (by decide) rfl rfl io_196 (z := 44) rfl (by decide +kernel) hG3 (by first | exact hG3.2 _ _ | exact hG.2 _ _ | exact b01_in _ | assumption | exact ⟨by omega, by omega⟩) (fun hG4 => ?_)
      have T0 : TM_ (hs_ h9 196 44 0) (0, fun _ => 0) := ⟨hG4, hs_eq _ _ _ _, fun k a b => absurd (show k < 0 from b) (by omega)⟩
      have f9 : UM_ h9 (hs_ h9 196 44 0) := fun x y a b => hs_ne _ b
      have M9 := mr_tx M T0 okt_0 (by omega) f9
      have R9 := rm_e (zwt_E z (0, fun _ => 0)) (rm_u R f9)
      have fm9 := fm.tr (um_fm f9)
      have th9 := (f9 196 0 (by omega) (by omega)).trans th
      refine s_iconst dX9_write_37 ?_
      refine s_istore_n dX9_write_38 (by decide) rfl (L' := [_, _, _, _, _]) rfl ?_
      exact lp_X9_wrA (h0 := h) (by omega) (by omega) (by omega) bz.1 (fun j a b => bz.2 j a (by omega)) (fun i h2 ok M2 R2 fm2 th2 => rp_X9_wrB (by omega) (by omega) (by omega) ok M2 R2 fm2 th2 (k (by omega) (by omega))) (z 11 p).toNat 0 (0, fun _ => 0) _ (by omega) (by omega) rfl okt_0 M9 R9 fm9 th9
    · exact absurd c3 (by decide)
end X9W2
