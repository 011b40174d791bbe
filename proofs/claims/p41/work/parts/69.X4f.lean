/-! WillHouse reads its text -/
theorem g_fl {h : PH} {a i n v : Int} {t k : Nat} (hG : G h) (A : isA nN a t k) (ht : t ≤ 3) (hv : inI v) : G (fl_ h a i n v) := by
  refine ⟨fun q hq => ?_, fun x y => ?_⟩
  · have hne : ¬ q.1 = a := by
      have h1 : ∀ n, n < nN → (sh_ n).1 ≤ 3 → rfA_ (n : Int) = true := by decide +kernel
      have h2 := h1 a.toNat A.2.1 (by rw [A.2.2.1]; exact ht)
      rw [toN_ A.1] at h2
      exact of_decide_eq_true (List.all_eq_true.mp h2 q hq)
    rw [fl_oth hne]
    exact hG.1 q hq
  · unfold fl_
    split
    · exact hv
    · exact hG.2 x y
/-- nothing read yet -/
def yz_ : PH := fun x => if x = 1 then fun k => if k = 59 then 5 else 0 else fun _ => 0
theorem yz_1 : yz_ 1 = fun k => if k = 59 then 5 else 0 := if_pos rfl
theorem yz_ne {x : Int} (h : ¬ x = 1) : yz_ x = fun _ => 0 := if_neg h
theorem yz_zf : ZF yz_ := by
  rw [zf_z, yz_1]
  refine ⟨fun t t0 t1 => ?_, fun p p0 p1 => ?_, ?_, ?_, ?_, ?_, ?_⟩
  all_goals dsimp only
  · rw [if_neg (by omega), if_neg (by omega), if_neg (by omega), if_neg (by omega)]
    omega
  · rw [if_neg (by omega), if_neg (by omega)]
    omega
  all_goals decide
theorem yz_yi : YI_ 0 yz_ := by
  have e0 : ∀ k : Int, yz_ 0 k = 0 := fun k => by rw [yz_ne (by omega)]
  refine ⟨yz_zf, by unfold YC_; rw [e0, e0, e0]; decide, by rw [e0]; decide, fun p p0 p1 => by omega, fun g g0 g1 => by rw [e0] at g1; omega, fun t t0 t1 => by rw [e0] at t1; omega, fun t t0 t1 => by rw [e0] at t1; omega⟩
/-- what a reader begins with -/
def bg_ (h : PH) (v n : Int) : PH := hs_ (fl_ (fl_ (fl_ (hs_ (hs_ (hs_ (hs_ (hs_ (hs_ h 2 4 n) 2 5 0) 2 2 (-1)) (v + 1) 1 0) (v + 14) 1 0) v 7 0) (v + 12) 0 8 0) (v + 13) 0 8 0) (2 + 38 + 1) 0 61 0) (2 + 38 + 1) 59 5
theorem rs_0 {h : PH} {v n : Int} {T : Int → Int} (hG : G h) (E : EV_ h v n T) (h2 : h 2 0 = v) : G (fl_ (fl_ (hs_ (hs_ (hs_ (hs_ (hs_ (hs_ h 2 4 n) 2 5 0) 2 2 (-1)) (v + 1) 1 0) (v + 14) 1 0) v 7 0) (v + 12) 0 8 0) (v + 13) 0 8 0) ∧ RS_ h v n 0 0 (h 2 6) yz_ (bg_ h v n) := by
  have W := ev_w E
  have hv := E.1
  have e0 : ∀ k : Int, yz_ 0 k = 0 := fun k => by rw [yz_ne (by omega)]
  have g1 := g_putO (v := n) (z := 4) 4 hG io_2 (by decide +kernel) rfl ⟨by have := E.2.1; omega, by have := E.2.1; omega⟩
  have g2 := g_putO (v := 0) (z := 5) 5 g1 io_2 (by decide +kernel) rfl ⟨by decide, by decide⟩
  have g3 := g_putO (v := -1) (z := 2) 2 g2 io_2 (by decide +kernel) rfl ⟨by decide, by decide⟩
  have g4 := g_putO (v := 0) (z := 1) 1 g3 (rk_5_0 W) (by decide +kernel) rfl ⟨by decide, by decide⟩
  have g5 := g_putO (v := 0) (z := 1) 1 g4 (rk_5_3 W) (by decide +kernel) rfl ⟨by decide, by decide⟩
  have g6 := g_putO (v := 0) (z := 7) 7 g5 W (by decide +kernel) rfl ⟨by decide, by decide⟩
  have g7 := g_fl (i := 0) (n := 8) (v := 0) g6 (rk_5_1 W) (by decide) ⟨by decide, by decide⟩
  have g8 := g_fl (i := 0) (n := 8) (v := 0) g7 (rk_5_2 W) (by decide) ⟨by decide, by decide⟩
  have g9 := g_fl (i := 0) (n := 61) (v := 0) g8 (rk_1_0 (rk_3_1 io_2)) (by decide) ⟨by decide, by decide⟩
  have g10 := g_putA (k := 59) (v := 5) g9 (rk_1_0 (rk_3_1 io_2)) (by decide) ⟨by decide, by decide⟩
  refine ⟨g8, ?_⟩
  have E2 : ∀ k : Int, bg_ h v n 2 k = if k = 2 then -1 else if k = 5 then 0 else if k = 4 then n else h 2 k := fun k => by
    unfold bg_
    rw [hs_ne _ (by omega), fl_ne (by omega), fl_ne (by rcases hv with e | e <;> omega), fl_ne (by rcases hv with e | e <;> omega), hs_ne _ (by rcases hv with e | e <;> omega), hs_ne _ (by rcases hv with e | e <;> omega), hs_ne _ (by rcases hv with e | e <;> omega)]
    by_cases c1 : k = 2
    · rw [if_pos c1, c1, hs_eq]
    · rw [if_neg c1, hs_ne _ (fun q => c1 q.2)]
      by_cases c2 : k = 5
      · rw [if_pos c2, c2, hs_eq]
      · rw [if_neg c2, hs_ne _ (fun q => c2 q.2)]
        by_cases c3 : k = 4
        · rw [if_pos c3, c3, hs_eq]
        · rw [if_neg c3, hs_ne _ (fun q => c3 q.2)]
  have cz : ∀ x y : Int, (x = v + 1 ∧ y = 1) ∨ (x = v + 14 ∧ y = 1) ∨ (x = v ∧ y = 7) → bg_ h v n x y = 0 := fun x y c => by
    unfold bg_
    rw [hs_ne _ (by rcases hv with e | e <;> omega), fl_ne (by rcases hv with e | e <;> omega), fl_ne (by rcases hv with e | e <;> omega), fl_ne (by rcases hv with e | e <;> omega)]
    by_cases c1 : x = v ∧ y = 7
    · rw [c1.1, c1.2, hs_eq]
    · rw [hs_ne _ c1]
      by_cases c2 : x = v + 14 ∧ y = 1
      · rw [c2.1, c2.2, hs_eq]
      · rw [hs_ne _ c2]
        have c3 : x = v + 1 ∧ y = 1 := by omega
        rw [c3.1, c3.2, hs_eq]
  refine ⟨⟨g10, fun x k a b c d => ?_, by rw [E2]; simpa using h2⟩, ⟨by rw [E2]; rfl, by rw [E2]; rfl, by rw [E2]; rfl, by rw [E2]; rfl⟩, ⟨⟨by rw [cz _ _ (Or.inl ⟨rfl, rfl⟩), e0], by rw [cz _ _ (Or.inr (Or.inl ⟨rfl, rfl⟩)), e0], by rw [cz _ _ (Or.inr (Or.inr ⟨rfl, rfl⟩)), e0]⟩, fun k k0 k1 => ?_, fun p p0 p1 => by omega, fun g g0 q => by rw [e0] at q; omega⟩, ⟨fun t t0 q => by rw [e0] at q; omega, fun t t0 q => by rw [e0] at q; omega⟩, fun t t0 t1 => ⟨?_, ?_⟩, yz_yi⟩
  · unfold bg_
    rw [hs_ne _ (by omega), fl_ne (by omega), fl_ne (by omega), fl_ne (by omega), hs_ne _ (by omega), hs_ne _ (by omega), hs_ne _ (by omega), hs_ne _ (by omega), hs_ne _ (by omega), hs_ne _ (by omega)]
  · rw [yz_1]
    unfold bg_
    dsimp only
    by_cases e : k = 59
    · rw [if_pos e, e, hs_eq]
    · rw [if_neg e, hs_ne _ (fun q => e q.2), fl_in rfl k0 k1]
  · have z : bg_ h v n (v + 12) t = 0 := by
      unfold bg_
      rw [hs_ne _ (by rcases hv with e | e <;> omega), fl_ne (by rcases hv with e | e <;> omega), fl_ne (by omega), fl_in rfl t0 t1]
    rw [z]
    exact ⟨fun q => absurd rfl q, fun ⟨g, q0, q1, _⟩ => by rw [e0] at q1; omega⟩
  · have z : bg_ h v n (v + 13) t = 0 := by
      unfold bg_
      rw [hs_ne _ (by rcases hv with e | e <;> omega), fl_ne (by rcases hv with e | e <;> omega), fl_in rfl t0 t1]
    rw [z]
    exact ⟨fun q => absurd rfl q, fun ⟨g, q0, q1, _⟩ => by rw [e0] at q1; omega⟩
section X4F
variable {d bc bs : Nat} {Q : PQ} {h0 h y z : PH} {v n m a s : Int} {T : Int → Int}
set_option maxRecDepth 100000 in
set_option maxHeartbeats 4000000 in
theorem c_X4_begin  (hd : 4 ≤ d) (hG : G h) (E : EV_ h v n T) (h2 : h 2 0 = v) (k : ∀ (s' : Int) (h' : PH), RS_ h v n 0 (nb_ T n 0) s' yz_ h' → Q.1 none nN h') : Cl_ yX4_begin MX4_begin d bc bs [(2, 2), (0, n)] nN h Q := by
  refine s_enter pn_X4 rfl (Nat.le_of_ble_eq_true rfl) (L := [(2, _), (0, _)]) rfl ?_
  have W := ev_w E
  have hn := E.2.1
  have r0 := rs_0 hG E h2
  refine s_aload_n dX4_begin_0 rfl ?_
  refine s_iload_n dX4_begin_1 rfl ?_
  refine s_putiG 4 dX4_begin_2 fl_X4_33 kl_3 (by decide) rfl rfl io_2 (z := 4) rfl (by decide +kernel) hG (by first | exact hG.2 _ _ | exact b01_in _ | assumption | exact ⟨by omega, by omega⟩) (fun hG1 => ?_)
  refine s_aload_n dX4_begin_5 rfl ?_
  refine s_iconst dX4_begin_6 ?_
  refine s_putiG 5 dX4_begin_7 fl_X4_36 kl_3 (by decide) rfl rfl io_2 (z := 5) rfl (by decide +kernel) hG1 (by first | exact hG1.2 _ _ | exact hG.2 _ _ | exact b01_in _ | assumption | exact ⟨by omega, by omega⟩) (fun hG2 => ?_)
  refine s_aload_n dX4_begin_10 rfl ?_
  refine s_iconst dX4_begin_11 ?_
  refine s_putiG 2 dX4_begin_12 fl_X4_25 kl_3 (by decide) rfl rfl io_2 (z := 2) rfl (by decide +kernel) hG2 (by first | exact hG2.2 _ _ | exact hG.2 _ _ | exact b01_in _ | assumption | exact ⟨by omega, by omega⟩) (fun hG3 => ?_)
  refine s_aload_n dX4_begin_15 rfl ?_
  refine s_getr dX4_begin_16 fl_X4_12 kl_3 (by decide) rfl io_2 (z := 0) rfl (by first | exact h2 | (simp (disch := omega) only [hs_ne]; exact h2)) (W).1 ?_
  refine s_callV (d' := d - 1) (bc' := 0) (bs' := 0) (as := []) dX4_begin_19 vf_X4_39 (dd_ (by omega) (by decide)) ⟨Nat.zero_le _, Nat.zero_le _⟩ rfl rfl (Nat.le_of_ble_eq_true rfl) kl_5 rfl W ?_
  refine c_X6_clear W hG3 ?_
  have hG4 := r0.1
  refine s_aload_n dX4_begin_22 rfl ?_
  refine s_getr dX4_begin_23 fl_X4_21 kl_3 (by decide) rfl io_2 (z := 1) rfl (rf_3_1 hG4.1 io_2) (rk_3_1 io_2).1 ?_
  refine s_callV (d' := d - 1) (bc' := 0) (bs' := 0) (as := []) dX4_begin_26 vf_X4_42 (dd_ (by omega) (by decide)) ⟨Nat.zero_le _, Nat.zero_le _⟩ rfl rfl (Nat.le_of_ble_eq_true rfl) kl_1 rfl (rk_3_1 io_2) ?_
  refine c_X2_clear (by omega) (rk_3_1 io_2) r0.1 ?_
  refine s_aload_n dX4_begin_29 rfl ?_
  refine s_callV (d' := d - 1) (bc' := 0) (bs' := 0) (as := []) dX4_begin_30 vf_X4_43 (dd_ (by omega) (by decide)) ⟨Nat.zero_le _, Nat.zero_le _⟩ rfl rfl (Nat.le_of_ble_eq_true rfl) kl_3 rfl io_2 ?_
  refine c_X4_skipBlanks E r0.2 (Int.le_refl _) (by omega) (fun h1 R1 => ?_)
  exact s_return dX4_begin_33 rfl (k _ _ R1)
/-- what was told is another -/
def zread (z y : PH) : PH := fun x => if 0 ≤ x ∧ x < 50 then y x else if x = 50 ∨ x = 53 then fun _ => 0 else if x = 52 then fun _ => -1 else z x
/-- the text was wrong at f -/
def zwrong (z : PH) (f : Int) : PH := fun x => if x = 50 then fun _ => 0 else if x = 52 then fun _ => f else z x
theorem zread_lo {x : Int} (a : 0 ≤ x) (b : x < 50) : zread z y x = y x := if_pos ⟨a, b⟩
theorem zread_hi {x : Int} (a : 54 ≤ x ∨ x = 51) : zread z y x = z x := by
  unfold zread
  rw [if_neg (by omega), if_neg (by omega), if_neg (by omega)]
theorem zread_0 {x : Int} (a : x = 50 ∨ x = 53) : zread z y x = fun _ => 0 := by
  unfold zread
  rw [if_neg (by omega), if_pos a]
theorem zread_52 : zread z y 52 = fun _ => -1 := by
  unfold zread
  rw [if_neg (by omega), if_neg (by omega), if_pos rfl]
theorem zwrong_ne {f x : Int} (a : ¬ x = 50) (b : ¬ x = 52) : zwrong z f x = z x := by
  unfold zwrong
  rw [if_neg a, if_neg b]
theorem cr_bad {h0 h z : PH} {v f : Int} (C : CR_ h z) (ev : h 2 0 = v) (hv : v = 3 ∨ v = 42) (e0 : ∀ x k : Int, ¬ (x = 0 ∧ k = 1) → h0 x k = h x k) (e1 : h0 0 1 = 0) {h' : PH} (X : RX_ h0 v f h') : CR_ h' (zwrong z f) := by
  obtain ⟨hG, fr, x0, x2, f0, f4⟩ := X
  obtain ⟨-, c1, c2, c3, c4, c5, c6, c7, c8, c9, c10⟩ := C
  have ew : (h 0 3 = 3 ∧ v = 42) ∨ (h 0 3 = 42 ∧ v = 3) := by rw [← ev]; exact c3
  have F : ∀ x k : Int, ¬ x = 2 → (x < v ∨ v + 36 < x) → ¬ x = 40 → ¬ x = 41 → ¬ (x = 0 ∧ k = 1) → h' x k = h x k := fun x k a b c d e => by rw [fr x k a b c d, e0 x k e]
  have eN : ∀ x : Int, ¬ x = 50 → ¬ x = 52 → zwrong z f x = z x := fun x a b => zwrong_ne a b
  have e3 : h' 0 3 = h 0 3 := F 0 3 (by omega) (by omega) (by omega) (by omega) (by omega)
  have w50 : zwrong z f 50 0 = 0 := by unfold zwrong; rw [if_pos rfl]
  have w52 : zwrong z f 52 0 = f := by unfold zwrong; rw [if_neg (by omega), if_pos rfl]
  have EE : ZE z (zwrong z f) := by
    unfold ZE
    refine ⟨?_, ?_, ?_, ?_, ?_, ?_, ?_, ?_, ?_⟩ <;> exact eN _ (by omega) (by omega)
  refine ⟨hG, zi_e EE c1, ?_, ?_, ?_, ?_, ⟨?_, fun k a b => ?_⟩, by rw [w52]; exact x2, ?_, ?_, ?_⟩
  · obtain ⟨d1, d2, d3, d4, d5, d6, d7, d8, d9⟩ := c2
    refine ⟨by rw [w50]; omega, by rw [eN 51 (by omega) (by omega)]; exact d2, by rw [w52]; omega, fun t a b => ?_, fun p a b => ?_, by rw [eN 53 (by omega) (by omega)]; exact d6, fun j a b => ?_, by rw [eN 54 (by omega) (by omega)]; exact d8, by rw [eN 54 (by omega) (by omega), eN 55 (by omega) (by omega)]; exact d9⟩
    · rw [eN 0 (by omega) (by omega)] at b
      have hT := c1.2.1
      rw [eN 10 (by omega) (by omega), eN (20 + t) (by omega) (by omega)]
      exact d4 t a b
    · rw [eN 0 (by omega) (by omega)] at b
      have hP := c1.2.2.1
      rw [eN 11 (by omega) (by omega), eN (30 + p) (by omega) (by omega)]
      exact d5 p a b
    · rw [eN 53 (by omega) (by omega)] at b
      rw [eN (60 + j) (by omega) (by omega)]
      exact d7 j a b
  · rw [e3, x0, ← ev]
    exact c3
  · rw [e3]
    exact pr_e EE (PR_to c4 (fun x k a b => F x k (by omega) (by omega) (by omega) (by omega) (by omega)) (fun k => F _ _ (by omega) (by omega) (by omega) (by omega) (by omega)))
  · have hT := c1.2.1
    have hP := c1.2.2.1
    rw [e3]
    refine ⟨fun t a b => ?_, fun t a b => ?_⟩
    · rw [eN 0 (by omega) (by omega)] at b
      have q := c5.1 t a b
      refine ⟨by rw [F _ _ (by omega) (by omega) (by omega) (by omega) (by omega), eN 10 (by omega) (by omega)]; exact q.1, fun j j0 j1 => ?_⟩
      rw [eN 10 (by omega) (by omega)] at j1
      rw [F _ _ (by omega) (by omega) (by omega) (by omega) (by omega), eN (20 + t) (by omega) (by omega)]
      exact q.2 j j0 j1
    · rw [eN 0 (by omega) (by omega)] at b
      have q := c5.2 t a b
      refine ⟨by rw [F _ _ (by omega) (by omega) (by omega) (by omega) (by omega), eN 11 (by omega) (by omega)]; exact q.1, fun j j0 j1 => ?_⟩
      rw [eN 11 (by omega) (by omega)] at j1
      rw [F _ _ (by omega) (by omega) (by omega) (by omega) (by omega), eN (30 + t) (by omega) (by omega)]
      exact q.2 j j0 j1
  · rw [fr 0 1 (by omega) (by omega) (by omega) (by omega), e1, w50]
  · rw [F _ _ (by omega) (by omega) (by omega) (by omega) (by omega), eN 51 (by omega) (by omega)]
    exact c6.2 k a b
  · obtain ⟨a1, a2, a3⟩ := c8
    refine ⟨by rw [F _ _ (by omega) (by omega) (by omega) (by omega) (by omega), eN 53 (by omega) (by omega)]; exact a1, by rw [F _ _ (by omega) (by omega) (by omega) (by omega) (by omega)]; exact a2, fun j k j0 j1 k0 k1 => ?_⟩
    rw [eN 53 (by omega) (by omega)] at j1
    rw [F 81 1 (by omega) (by omega) (by omega) (by omega) (by omega), F _ _ (by omega) (by omega) (by omega) (by omega) (by omega), eN 53 (by omega) (by omega), eN (60 + j) (by omega) (by omega)]
    exact a3 j k j0 j1 k0 k1
  · obtain ⟨a1, a2, a3, a4, a5, a6⟩ := c9
    have Z : ∀ k : Int, h' 198 k = h 198 k := fun k => F _ _ (by omega) (by omega) (by omega) (by omega) (by omega)
    unfold CS_
    rw [eN 54 (by omega) (by omega), eN 55 (by omega) (by omega)]
    exact ⟨by rw [Z]; exact a1, fun k a b => by rw [Z]; exact a2 k a b, by rw [Z]; exact a3, by rw [Z]; exact a4, by rw [Z]; exact a5, by rw [Z]; exact a6⟩
  · rw [CD_, F 0 7 (by omega) (by omega) (by omega) (by omega) (by omega), e3]
    refine ⟨c10.1, fun q => ?_⟩
    obtain ⟨a1, a2⟩ := c10.2 q
    exact ⟨by rw [F _ _ (by omega) (by omega) (by omega) (by omega) (by omega)]; exact a1, rd_e EE (RD_to a2 c1 (fun x k a b => F x k (by omega) (by omega) (by omega) (by omega) (by omega)))⟩
theorem cr_read {h0 h h' z y : PH} {v n a s : Int} (C : CR_ h z) (ev : h 2 0 = v) (hv : v = 3 ∨ v = 42) (e0 : ∀ x k : Int, ¬ (x = 0 ∧ k = 1) → h0 x k = h x k) (e1 : h0 0 1 = 0) {h1 : PH} (R : RS_ h0 v n (y 0 1) a s y h1) (hG : G h') (f : ∀ x k : Int, ¬ (x = 0 ∧ k = 3) → ¬ (x = 2 ∧ k = 0) → ¬ x = 0 + 79 + 1 → ¬ (x = 81 ∧ k = 2) → ¬ (x = 0 ∧ k = 7) → h' x k = h1 x k) (w3 : h' 0 3 = v) (w2 : h' 2 0 = h 0 3) (wf : ∀ k : Int, 0 ≤ k → k < 61 → h' (0 + 79 + 1) k = h1 (2 + 38 + 1) k) (wa : h' 81 2 = 0) (ws : h' 0 7 = 1) : CR_ h' (zread z y) := by
  obtain ⟨⟨-, fr, x0⟩, ⟨q4, q5, q6, q2⟩, ⟨p1, p2, p3, p4⟩, cn, gv, i1, i2, i3, i4, i5, i6⟩ := R
  obtain ⟨-, c1, c2, c3, c4, c5, c6, c7, c8, c9, c10⟩ := C
  have iT := i2.1
  have iP := i2.2.1
  have iG := i2.2.2
  have lo : ∀ x : Int, 0 ≤ x → x < 50 → zread z y x = y x := fun x p q => zread_lo p q
  have z0 := lo 0 (by omega) (by omega)
  have z1 := lo 1 (by omega) (by omega)
  have z2 := lo 2 (by omega) (by omega)
  have z3 := lo 3 (by omega) (by omega)
  have z5 := lo 5 (by omega) (by omega)
  have z6 := lo 6 (by omega) (by omega)
  have z7 := lo 7 (by omega) (by omega)
  have z8 := lo 8 (by omega) (by omega)
  have z9 := lo 9 (by omega) (by omega)
  have z10 := lo 10 (by omega) (by omega)
  have z11 := lo 11 (by omega) (by omega)
  have F : ∀ x k : Int, ¬ x = 2 → (x < v ∨ v + 36 < x) → ¬ x = 40 → ¬ x = 41 → ¬ (x = 0 ∧ k = 1) → ¬ (x = 0 ∧ k = 3) → ¬ x = 0 + 79 + 1 → ¬ (x = 81 ∧ k = 2) → ¬ (x = 0 ∧ k = 7) → h' x k = h x k := fun x k a b c d e g1 g2 g3 g4 => by
    rw [f x k g1 (by omega) g2 g3 g4, fr x k a b c d, e0 x k e]
  have V : ∀ x k : Int, v ≤ x → x ≤ v + 36 → h' x k = h1 x k := fun x k a b => f x k (by omega) (by omega) (by omega) (by omega) (by omega)
  have ew : (h 0 3 = 3 ∧ v = 42) ∨ (h 0 3 = 42 ∧ v = 3) := by rw [← ev]; exact c3
  refine ⟨hG, ⟨?_, ?_⟩, ?_, ?_, ?_, ?_, ⟨?_, fun k a b => ?_⟩, ?_, ⟨?_, ?_, fun j k j0 j1 => ?_⟩, ?_, ⟨Or.inr ws, fun q => by omega⟩⟩
  · rw [zf_z, z1]
    exact i1
  · unfold ZW
    rw [z0, z2, z3, z5, z6, z7, z8, z9]
    exact ⟨iT, iP, iG, i4, i5⟩
  · obtain ⟨d1, d2, d3, d4, d5, d6, d7, d8, d9⟩ := c2
    refine ⟨by rw [zread_0 (Or.inl rfl)]; exact ⟨by decide, by decide⟩, by rw [zread_hi (Or.inr rfl)]; exact d2, by rw [zread_52]; exact ⟨by decide, by decide⟩, ?_, ?_, by rw [zread_0 (Or.inr rfl)]; exact ⟨by decide, by decide⟩, fun j a b => absurd (show j < (0 : Int) by rw [zread_0 (Or.inr rfl)] at b; exact b) (by omega), by rw [zread_hi (Or.inl (by omega))]; exact d8, by rw [zread_hi (Or.inl (by omega)), zread_hi (Or.inl (by omega))]; exact d9⟩
    · rw [z0, z10]
      intro t a b
      rw [lo (20 + t) (by omega) (by omega)]
      exact i6.1 t a b
    · rw [z0, z11]
      intro t a b
      rw [lo (30 + t) (by omega) (by omega)]
      exact i6.2 t a b
  · rw [w3, w2]
    omega
  · rw [w3]
    unfold PR_
    rw [z0, z1, z2, z3, z5, z6, z7, z8, z9, zkn_to z2 z3]
    refine ⟨by rw [V _ _ (by omega) (by omega), V _ _ (by omega) (by omega), V _ _ (by omega) (by omega)]; exact p1, fun k a b => by rw [wf k a b]; exact p2 k a b, fun p a b => ?_, fun g a b => ?_⟩
    · rw [V _ _ (by omega) (by omega), V _ _ (by omega) (by omega), V _ _ (by omega) (by omega)]
      exact p3 p a b
    · rw [V _ _ (by omega) (by omega), V _ _ (by omega) (by omega), V _ _ (by omega) (by omega), V _ _ (by omega) (by omega), V _ _ (by omega) (by omega)]
      exact p4 g a b
  · rw [w3]
    unfold CN_
    rw [z0, z10, z11]
    refine ⟨fun t a b => ?_, fun t a b => ?_⟩
    · have q := cn.1 t a b
      rw [V _ _ (by omega) (by omega), lo (20 + t) (by omega) (by omega)]
      refine ⟨q.1, fun j j0 j1 => ?_⟩
      rw [V _ _ (by omega) (by omega)]
      exact q.2 j j0 j1
    · have q := cn.2 t a b
      rw [V _ _ (by omega) (by omega), lo (30 + t) (by omega) (by omega)]
      refine ⟨q.1, fun j j0 j1 => ?_⟩
      rw [V _ _ (by omega) (by omega)]
      exact q.2 j j0 j1
  · rw [f _ _ (by omega) (by omega) (by omega) (by omega) (by omega), fr 0 1 (by omega) (by omega) (by omega) (by omega), e1, zread_0 (Or.inl rfl)]
  · rw [F _ _ (by omega) (by omega) (by omega) (by omega) (by omega) (by omega) (by omega) (by omega) (by omega), zread_hi (Or.inr rfl)]
    exact c6.2 k a b
  · rw [f _ _ (by omega) (by omega) (by omega) (by omega) (by omega), q2, zread_52]
  · rw [wa, zread_0 (Or.inr rfl)]
  · rw [F _ _ (by omega) (by omega) (by omega) (by omega) (by omega) (by omega) (by omega) (by omega) (by omega)]
    exact c8.2.1
  · exact absurd (show j < (0 : Int) by rw [zread_0 (Or.inr rfl)] at j1; exact j1) (by omega)
  · obtain ⟨a1, a2, a3, a4, a5, a6⟩ := c9
    have Z : ∀ k : Int, h' 198 k = h 198 k := fun k => F _ _ (by omega) (by omega) (by omega) (by omega) (by omega) (by omega) (by omega) (by omega) (by omega)
    unfold CS_
    rw [zread_hi (Or.inl (by omega)), zread_hi (Or.inl (by omega))]
    exact ⟨by rw [Z]; exact a1, fun k a b => by rw [Z]; exact a2 k a b, by rw [Z]; exact a3, by rw [Z]; exact a4, by rw [Z]; exact a5, by rw [Z]; exact a6⟩
noncomputable def zrd (z : PH) : OU := pRead (z 51) (z 50 0) 400 (nb_ (z 51) (z 50 0) 0) yz_

theorem prd_s {mm : Nat} (c : a < n) : pRead T n (mm + 1) a y = iC (¬ (pLine T n a y).1 = -1) (pLine T n a y) (pRead T n mm (pLine T n a y).2.1 (pLine T n a y).2.2) := by
  show iC (¬ a < n) _ _ = _
  rw [iC_f (nn_i c)]
theorem prd_e {mm : Nat} (c : ¬ a < n) : pRead T n (mm + 1) a y = (-1, a, y) := iC_t c
set_option maxRecDepth 100000 in
set_option maxHeartbeats 4000000 in
theorem lp_X8_read (hd : 13 ≤ d) (E : EV_ h0 v n T) : ∀ (m : Nat) (i a s : Int) (y h : PH), 0 ≤ i → i + m = 400 → 0 ≤ a → a ≤ n → OT_ (fun _ _ h1 => ∀ i : Int, S_ MX8_read d bc bs Q 50 [(2, 0), (0, n), (0, i)] [] nN h1, Q.2) bc bs h0 v n (pRead T n m a y) → RS_ h0 v n (y 0 1) a s y h → S_ MX8_read d bc bs Q 20 [(2, 0), (0, n), (0, i)] [] nN h := by
  intro m
  induction m with
  | zero =>
    intro i a s y h i0 i1 a0 a1 K RhG
    have hG := RhG.1.1
    refine s_iload_n dX8_read_20 rfl ?_
    refine s_sipush dX8_read_21 (by decide) ?_
    refine s_icmp_ge (tgt := 50) dX8_read_24 (by decide) (by first | exact hG.2 _ _ | exact b01_in _ | assumption | exact ⟨by omega, by omega⟩) (by first | exact hG.2 _ _ | exact b01_in _ | assumption | exact ⟨by omega, by omega⟩) (fun c1 => ?_) (fun c1 => ?_)
    · exact ot_ok K rfl a0 a1 RhG i
    · exact absurd c1 (by omega)
  | succ m ih =>
    intro i a s y h i0 i1 a0 a1 K RhG
    have hG := RhG.1.1
    refine s_iload_n dX8_read_20 rfl ?_
    refine s_sipush dX8_read_21 (by decide) ?_
    refine s_icmp_ge (tgt := 50) dX8_read_24 (by decide) (by first | exact hG.2 _ _ | exact b01_in _ | assumption | exact ⟨by omega, by omega⟩) (by first | exact hG.2 _ _ | exact b01_in _ | assumption | exact ⟨by omega, by omega⟩) (fun c1 => ?_) (fun c1 => ?_)
    · exact absurd c1 (by omega)
    · refine s_aload_n dX8_read_27 rfl ?_
      refine s_getr dX8_read_28 fl_X8_18 kl_6 (by decide) rfl io_0 (z := 2) rfl (rf_6_2 hG.1 io_0) (rk_6_2 io_0).1 ?_
      refine s_callV (d' := d - 1) (bc' := 0) (bs' := 0) (as := []) dX8_read_31 vf_X8_80 (dd_ (by omega) (by decide)) ⟨Nat.zero_le _, Nat.zero_le _⟩ rfl rfl (Nat.le_of_ble_eq_true rfl) kl_3 rfl (rk_6_2 io_0) ?_
      refine c_X4_hasMore E RhG ?_
      refine s_if_eq (tgt := 50) dX8_read_34 (by decide) (by first | exact hG.2 _ _ | exact b01_in _ | assumption | exact ⟨by omega, by omega⟩) (fun c2 => ?_) (fun c2 => ?_)
      · have K9 := K
        rw [prd_e (b01_0.mp c2)] at K9
        exact ot_ok K9 rfl a0 a1 RhG i
      · have c := b01_n.mp c2--go
        have c2 := b01_n.mp c2
        refine s_aload_n dX8_read_37 rfl ?_
        refine s_getr dX8_read_38 fl_X8_18 kl_6 (by decide) rfl io_0 (z := 2) rfl (rf_6_2 hG.1 io_0) (rk_6_2 io_0).1 ?_
        
        refine s_callP (as := []) ((pLine T n a y).1 = -1) (fun q => (K.2 (by rw [prd_s c, iC_t q]; exact q)).1) dX8_read_41 vf_X8_84 (dd_ (by omega) (by decide)) rfl rfl (Nat.le_of_ble_eq_true rfl) kl_3 rfl (rk_6_2 io_0) (fun b1 b2 Q1 hb1 k1 kx1 => ?_)
        refine c_X4_readLine (by omega) E RhG a0 a1 ⟨fun e s9 h9 u0 u1 R9 => k1 _ _ _ e ?_, fun e => ⟨hb1 e, fun h' X => kx1 _ _ _ e ((K.2 (by rw [prd_s c, iC_t e]; exact e)).2 h' (by rw [prd_s c, iC_t e]; exact X))⟩⟩
        refine s_iinc dX8_read_44 rfl (by decide) rfl (L' := [_, _, _]) rfl ?_
        refine s_goto (tgt := 20) dX8_read_47 (by decide) ?_
        rw [prd_s c, iC_f (nn_i e)] at K
        exact ih (i + 1) _ _ _ _ (by omega) (by omega) u0 u1 K R9
set_option maxRecDepth 100000 in
set_option maxHeartbeats 4000000 in
theorem c_X8_read (hd : 14 ≤ d) (hbc : 1 ≤ bc) (hbs : 6 ≤ bs) (C : CR_ h z) (k : (zrd z).1 = -1 → ∀ h1 : PH, CR_ h1 (zread z (zrd z).2.2) → FC h h1 → Q.1 (some (0, (zrd z).2.2 0 2)) nN h1) (kx : ¬ (zrd z).1 = -1 → ∀ h1 : PH, CR_ h1 (zwrong z (zrd z).1) → FC h h1 → Q.2 IAE nN h1) : Cl_ yX8_read MX8_read d bc bs [(2, 0)] nN h Q := by
  refine s_enter pn_X8 rfl (Nat.le_of_ble_eq_true rfl) (L := [(2, _), (9, 0), (9, 0)]) rfl ?_
  have hG := cr_g C
  obtain ⟨v, ev⟩ : ∃ v : Int, h 2 0 = v := ⟨_, rfl⟩
  obtain ⟨w, hw, Wo, hwf, P, CN⟩ := cr_w C
  have hwv : (w = 3 ∧ v = 42) ∨ (w = 42 ∧ v = 3) := by rw [← hw, ← ev]; exact C.2.2.2.1
  have hv : v = 3 ∨ v = 42 := by omega
  have n50 : h 0 1 = z 50 0 := C.2.2.2.2.2.2.1.1
  have b50 := (cr_b C).1
  obtain ⟨n, en⟩ : ∃ n : Int, z 50 0 = n := ⟨_, rfl⟩
  obtain ⟨T, eT⟩ : ∃ T : Int → Int, z 51 = T := ⟨_, rfl⟩
  have E : EV_ (hs_ h 0 1 0) v n T := ⟨hv, by omega, fun k a b => ⟨by rw [hs_ne _ (by omega), ← eT]; exact C.2.2.2.2.2.2.1.2 k a b, by rw [← eT]; exact (cr_b C).2.1 k a b⟩⟩
  have W := ev_w E
  have b0 := nb_bd (T := T) (n := n) (a := 0) (by omega)
  have ez : zrd z = pRead T n 400 (nb_ T n 0) yz_ := by unfold zrd; rw [en, eT]
  rw [ez] at k kx
  rw [en] at n50
  have K : OT_ (fun _ _ h1 => ∀ i : Int, S_ MX8_read d bc bs Q 50 [(2, 0), (0, n), (0, i)] [] nN h1, Q.2) bc bs (hs_ h 0 1 0) v n (pRead T n 400 (nb_ T n 0) yz_) := by
    refine ⟨fun e s' hh u0 u1 R i => ?_, fun e => ⟨⟨hbc, hbs⟩, fun hh X => kx e hh (cr_bad C ev hv (fun x k c => hs_ne _ c) (hs_eq _ _ _ _) X) (fun x k hx => ?_)⟩⟩
    rotate_left
    · rw [X.2.1 x k (by omega) (by omega) (by omega) (by omega), hs_ne _ (by omega)]
    have hG := R.1.1
    have hw3 : hh 0 3 = w := by rw [R.1.2.1 0 3 (by omega) (by omega) (by omega) (by omega), hs_ne _ (by omega)]; exact hw
    refine s_aload_n dX8_read_50 rfl ?_
    refine s_getr dX8_read_51 fl_X8_25 kl_6 (by decide) rfl io_0 (z := 3) rfl (by first | exact hw3 | (simp (disch := omega) only [hs_same, hs_ne, fl_in, fl_ne, cp_inn, cp_nee]; exact hw3)) (Wo).1 ?_
    refine s_astore_n dX8_read_54 (by decide) rfl (L' := [_, _, _]) rfl ?_
    refine s_aload_n dX8_read_55 rfl ?_
    refine s_aload_n dX8_read_56 rfl ?_
    refine s_getr dX8_read_57 fl_X8_18 kl_6 (by decide) rfl io_0 (z := 2) rfl (rf_6_2 hG.1 io_0) (rk_6_2 io_0).1 ?_
    refine s_getr dX8_read_60 fl_X8_87 kl_3 (by decide) rfl (rk_6_2 io_0) (z := 0) rfl (by first | exact R.1.2.2 | (simp (disch := omega) only [hs_same, hs_ne, fl_in, fl_ne, cp_inn, cp_nee]; exact R.1.2.2)) (W).1 ?_
    refine s_putrG 3 dX8_read_63 fl_X8_25 kl_6 (by decide) rfl rfl io_0 (z := 3) rfl (by decide +kernel) hG (W).1 (io_lt W) (fun hG1 => ?_)
    refine s_aload_n dX8_read_66 rfl ?_
    refine s_getr dX8_read_67 fl_X8_18 kl_6 (by decide) rfl io_0 (z := 2) rfl (rf_6_2 hG1.1 io_0) (rk_6_2 io_0).1 ?_
    refine s_aload_n dX8_read_70 rfl ?_
    refine s_putrG 0 dX8_read_71 fl_X8_87 kl_3 (by decide) rfl rfl (rk_6_2 io_0) (z := 0) rfl (by decide +kernel) hG1 (Wo).1 (io_lt Wo) (fun hG2 => ?_)
    refine s_aload_n dX8_read_74 rfl ?_
    refine s_getr dX8_read_75 fl_X8_32 kl_6 (by decide) rfl io_0 (z := 4) rfl (rf_6_4 hG2.1 io_0) (rk_6_4 io_0).1 ?_
    refine s_aload_n dX8_read_78 rfl ?_
    refine s_getr dX8_read_79 fl_X8_18 kl_6 (by decide) rfl io_0 (z := 2) rfl (rf_6_2 hG2.1 io_0) (rk_6_2 io_0).1 ?_
    refine s_getr dX8_read_82 fl_X8_88 kl_3 (by decide) rfl (rk_6_2 io_0) (z := 1) rfl (rf_3_1 hG2.1 (rk_6_2 io_0)) (rk_3_1 (rk_6_2 io_0)).1 ?_
    refine s_callV (d' := d - 1) (bc' := 0) (bs' := 0) (as := [_]) dX8_read_85 vf_X8_89 (dd_ (by omega) (by decide)) ⟨Nat.zero_le _, Nat.zero_le _⟩ rfl rfl (Nat.le_of_ble_eq_true rfl) kl_1 rfl (rk_6_4 io_0) ?_
    refine c_X2_copyFrom (by omega) (rk_6_4 io_0) (rk_3_1 io_2) hG2 ?_
    have hG3 : G (cp_ _ (2 + 38 + 1) 0 (0 + 79 + 1) 0 61) := g_cp hG2 (rk_1_0 (rk_6_4 io_0)) (by decide)
    refine s_aload_n dX8_read_88 rfl ?_
    refine s_getr dX8_read_89 fl_X8_39 kl_6 (by decide) rfl io_0 (z := 5) rfl (rf_6_5 hG3.1 io_0) (rk_6_5 io_0).1 ?_
    refine s_callV (d' := d - 1) (bc' := 0) (bs' := 0) (as := []) dX8_read_92 vf_X8_93 (dd_ (by omega) (by decide)) ⟨Nat.zero_le _, Nat.zero_le _⟩ rfl rfl (Nat.le_of_ble_eq_true rfl) kl_0 rfl (rk_6_5 io_0) ?_
    refine c_X1_forgetAll (rk_6_5 io_0) hG3 ?_
    have hG4 := g_putO (a := 0 + 81) (v := 0) (z := 2) 2 hG3 (rk_6_5 io_0) (by decide +kernel) rfl ⟨by decide, by decide⟩
    refine s_aload_n dX8_read_95 rfl ?_
    refine s_iconst dX8_read_96 ?_
    refine s_putzG 7 dX8_read_97 fl_X8_52 kl_6 (by decide) rfl rfl io_0 (z := 7) rfl (by decide +kernel) hG4 (by first | exact Or.inl rfl | exact Or.inr rfl | exact b01_or _ | exact ite01 _ | assumption | omega) (fun hG5 => ?_)
    refine s_aload_n dX8_read_100 rfl ?_
    refine s_getr dX8_read_101 fl_X8_25 kl_6 (by decide) rfl io_0 (z := 3) rfl (by simp (disch := omega) only [hs_same, hs_ne, cp_nee]) (W).1 ?_
    refine s_geti dX8_read_104 fl_X8_96 kl_5 (by decide) rfl W (z := 7) rfl ?_
    try simp (disch := omega) only [hs_same, hs_ne, fl_in, fl_ne, cp_inn, cp_nee]
    rw [R.2.2.1.1.2.2]
    refine s_ireturn dX8_read_107 rfl (k e _ (cr_read C ev hv (fun x k c => hs_ne _ c) (hs_eq _ _ _ _) R hG5 (fun x k c1 c2 c3 c4 c5 => by rw [hs_ne _ (by omega), hs_ne _ (by omega), cp_nee (by omega), hs_ne _ (by omega), hs_ne _ (by omega)]) (by simp (disch := omega) only [hs_same, hs_ne, cp_nee]) (by simp (disch := omega) only [hs_same, hs_ne, cp_nee]; exact hw.symm) (fun k k0 k1 => by rw [hs_ne _ (by omega), hs_ne _ (by omega), cp_inn rfl k0 (by omega), hs_ne _ (by omega), hs_ne _ (by omega), show (0 : Int) + (k - 0) = k by omega, show (0 + 2 + 38 + 1 : Int) = 2 + 38 + 1 by omega]) (by simp (disch := omega) only [hs_same, hs_ne, cp_nee]) (by simp (disch := omega) only [hs_same, hs_ne, cp_nee])) (fun x k hx => ?_))
    rw [hs_ne _ (by omega), hs_ne _ (by omega), cp_nee (by omega), hs_ne _ (by omega), hs_ne _ (by omega), R.1.2.1 x k (by omega) (by omega) (by omega) (by omega), hs_ne _ (by omega)]
  refine s_aload_n dX8_read_0 rfl ?_
  refine s_geti dX8_read_1 fl_X8_69 kl_6 (by decide) rfl io_0 (z := 1) rfl ?_
  refine s_istore_n dX8_read_4 (by decide) rfl (L' := [_, _, _]) rfl ?_
  refine s_aload_n dX8_read_5 rfl ?_
  refine s_iconst dX8_read_6 ?_
  refine s_putiG 1 dX8_read_7 fl_X8_69 kl_6 (by decide) rfl rfl io_0 (z := 1) rfl (by decide +kernel) hG (by first | exact hG.2 _ _ | exact b01_in _ | assumption | exact ⟨by omega, by omega⟩) (fun hG1 => ?_)
  refine s_aload_n dX8_read_10 rfl ?_
  refine s_getr dX8_read_11 fl_X8_18 kl_6 (by decide) rfl io_0 (z := 2) rfl (rf_6_2 hG1.1 io_0) (rk_6_2 io_0).1 ?_
  refine s_iload_n dX8_read_14 rfl ?_
  
  rw [n50]
  refine s_callV (d' := d - 1) (bc' := 0) (bs' := 0) (as := [_]) dX8_read_15 vf_X8_77 (dd_ (by omega) (by decide)) ⟨Nat.zero_le _, Nat.zero_le _⟩ rfl rfl (Nat.le_of_ble_eq_true rfl) kl_3 rfl (rk_6_2 io_0) ?_
  refine c_X4_begin (by omega) hG1 E (by rw [hs_ne _ (by omega)]; exact ev) (fun s1 h1 R1 => ?_)
  refine s_iconst dX8_read_18 ?_
  refine s_istore_n dX8_read_19 (by decide) rfl (L' := [_, _, _]) rfl ?_
  exact lp_X8_read (by omega) E 400 0 _ s1 yz_ h1 (Int.le_refl _) (by omega) (by omega) (by omega) K R1
end X4F
