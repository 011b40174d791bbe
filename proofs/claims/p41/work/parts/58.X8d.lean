/-! WillHouse: what only tells, the rest -/
section X8D
variable {d bc bs : Nat} {Q : PQ} {h z : PH}
theorem fs_t {f : Int → Int} {k p : Int} {m : Nat} (e : f p = k) : fs_ f k (m + 1) p = p := by
  rw [fs_, if_pos e]
theorem fs_f {f : Int → Int} {k p : Int} {m : Nat} (e : ¬ f p = k) : fs_ f k (m + 1) p = fs_ f k m (p + 1) := by
  rw [fs_, if_neg e]
theorem zah_bd {z : PH} (I : ZI z) (p : Int) : 0 ≤ zah z p ∧ zah z p ≤ 12 := by
  have hP := I.2.2.1
  have s0 := sumI_nonneg (f := fun q => if zta z p < zta z q ∨ (zta z q = zta z p ∧ q < p) then (1 : Int) else 0) (z 0 1).toNat 0 (fun c c0 c1 => by split <;> omega)
  have s1 := sumI_le (f := fun q => if zta z p < zta z q ∨ (zta z q = zta z p ∧ q < p) then (1 : Int) else 0) (b := 1) (z 0 1).toNat 0 (fun c c0 c1 => by split <;> omega)
  unfold zah
  omega
set_option maxRecDepth 100000 in
set_option maxHeartbeats 4000000 in
theorem lp_X8_countLiving   {z : PH} (hd : 2 ≤ d) (C : CR_ h z) : ∀ (m : Nat) (i a : Int), (0 ≤ i) → (i + m = z 0 1) → (∀ y, y = a + sumI (fun x => if z 1 (32 + x) = 0 then 1 else 0) i m → Q.1 (some (0, y)) nN h) → S_ MX8_countLiving d bc bs Q 4 [(2, 0), (0, a), (0, i)] [] nN h := by
  intro m
  induction m with
  | zero =>
    intro i a i0 i1 k
    have hG := cr_g C
    have I := cr_i C
    obtain ⟨w, hw, W, hwf, P, CN⟩ := cr_w C
    have hT := I.2.1
    have hP := I.2.2.1
    have hN := I.2.2.2.1
    have eP := P.1.2.1
    have eT := P.1.1
    have eN := P.1.2.2
    refine s_iload_n dX8_countLiving_4 rfl ?_
    refine s_aload_n dX8_countLiving_5 rfl ?_
    refine s_getr dX8_countLiving_6 fl_X8_25 kl_6 (by decide) rfl io_0 (z := 3) rfl (by first | exact hw | (simp (disch := omega) only [hs_same, hs_ne, fl_in, fl_ne, cp_inn, cp_nee]; exact hw)) (W).1 ?_
    refine s_getr dX8_countLiving_9 fl_X8_105 kl_5 (by decide) rfl W (z := 3) rfl (rf_5_3 hG.1 W) (rk_5_3 W).1 ?_
    refine s_geti dX8_countLiving_12 fl_X8_339 kl_2 (by decide) rfl (rk_5_3 W) (z := 1) rfl ?_
    refine s_icmp_ge (tgt := 43) dX8_countLiving_15 (by decide) (by first | exact hG.2 _ _ | exact b01_in _ | assumption | exact ⟨by omega, by omega⟩) (by first | exact hG.2 _ _ | exact b01_in _ | assumption | exact ⟨by omega, by omega⟩) (fun c1 => ?_) (fun c1 => ?_)
    · refine s_iload_n dX8_countLiving_43 rfl ?_
      exact s_ireturn dX8_countLiving_44 rfl (k _ (by simp only [sumI]; omega))
    · exact absurd c1 (by omega)
  | succ m ih =>
    intro i a i0 i1 k
    have hG := cr_g C
    have I := cr_i C
    obtain ⟨w, hw, W, hwf, P, CN⟩ := cr_w C
    have hT := I.2.1
    have hP := I.2.2.1
    have hN := I.2.2.2.1
    have eP := P.1.2.1
    have eT := P.1.1
    have eN := P.1.2.2
    refine s_iload_n dX8_countLiving_4 rfl ?_
    refine s_aload_n dX8_countLiving_5 rfl ?_
    refine s_getr dX8_countLiving_6 fl_X8_25 kl_6 (by decide) rfl io_0 (z := 3) rfl (by first | exact hw | (simp (disch := omega) only [hs_same, hs_ne, fl_in, fl_ne, cp_inn, cp_nee]; exact hw)) (W).1 ?_
    refine s_getr dX8_countLiving_9 fl_X8_105 kl_5 (by decide) rfl W (z := 3) rfl (rf_5_3 hG.1 W) (rk_5_3 W).1 ?_
    refine s_geti dX8_countLiving_12 fl_X8_339 kl_2 (by decide) rfl (rk_5_3 W) (z := 1) rfl ?_
    refine s_icmp_ge (tgt := 43) dX8_countLiving_15 (by decide) (by first | exact hG.2 _ _ | exact b01_in _ | assumption | exact ⟨by omega, by omega⟩) (by first | exact hG.2 _ _ | exact b01_in _ | assumption | exact ⟨by omega, by omega⟩) (fun c1 => ?_) (fun c1 => ?_)
    · exact absurd c1 (by omega)
    · refine s_iload_n dX8_countLiving_18 rfl ?_
      refine s_aload_n dX8_countLiving_19 rfl ?_
      refine s_getr dX8_countLiving_20 fl_X8_32 kl_6 (by decide) rfl io_0 (z := 4) rfl (rf_6_4 hG.1 io_0) (rk_6_4 io_0).1 ?_
      refine s_iload_n dX8_countLiving_23 rfl ?_
      refine s_callV (d' := d - 1) (bc' := 0) (bs' := 0) (as := [_]) dX8_countLiving_24 vf_X8_156 (dd_ (by omega) (by decide)) ⟨Nat.zero_le _, Nat.zero_le _⟩ rfl rfl (Nat.le_of_ble_eq_true rfl) kl_1 rfl (rk_6_4 io_0) ?_
      refine c_X2_isDead (rk_6_4 io_0) hG (by omega) (by omega) ?_
      rw [P.2.1 _ (by omega) (by omega)]
      refine s_if_eq (tgt := 34) dX8_countLiving_27 (by decide) (by first | exact hG.2 _ _ | exact b01_in _ | assumption | exact ⟨by omega, by omega⟩) (fun c2 => ?_) (fun c2 => ?_)
      · have c2 := b01_0.mp c2
        refine s_iconst dX8_countLiving_34 ?_
        refine s_iadd dX8_countLiving_35 ?_
        refine s_istore_n dX8_countLiving_36 (by decide) rfl (L' := [_, _, _]) rfl ?_
        refine s_iinc dX8_countLiving_37 rfl (by decide) rfl (L' := [_, _, _]) rfl ?_
        refine s_goto (tgt := 4) dX8_countLiving_40 (by decide) ?_
        exact ih (i + 1) _ (by omega) (by omega) (fun y e => k y (by rw [e]; simp only [sumI]; split <;> omega))
      · have c2 := b01_n.mp c2
        refine s_iconst dX8_countLiving_30 ?_
        refine s_goto (tgt := 35) dX8_countLiving_31 (by decide) ?_
        refine s_iadd dX8_countLiving_35 ?_
        refine s_istore_n dX8_countLiving_36 (by decide) rfl (L' := [_, _, _]) rfl ?_
        refine s_iinc dX8_countLiving_37 rfl (by decide) rfl (L' := [_, _, _]) rfl ?_
        refine s_goto (tgt := 4) dX8_countLiving_40 (by decide) ?_
        exact ih (i + 1) _ (by omega) (by omega) (fun y e => k y (by rw [e]; simp only [sumI]; split <;> omega))
set_option maxRecDepth 100000 in
set_option maxHeartbeats 4000000 in
theorem c_X8_countLiving {z : PH} (hd : 3 ≤ d) (C : CR_ h z) (k : Q.1 (some (0, zliving z)) nN h)  : Cl_ yX8_countLiving MX8_countLiving d bc bs [(2, 0)] nN h Q := by
  refine s_enter pn_X8 rfl (Nat.le_of_ble_eq_true rfl) (L := [(2, _), (9, 0), (9, 0)]) rfl ?_
  have hG := cr_g C
  have I := cr_i C
  obtain ⟨w, hw, W, hwf, P, CN⟩ := cr_w C
  have hT := I.2.1
  have hP := I.2.2.1
  have hN := I.2.2.2.1
  have eP := P.1.2.1
  have eT := P.1.1
  have eN := P.1.2.2
  refine s_iconst dX8_countLiving_0 ?_
  refine s_istore_n dX8_countLiving_1 (by decide) rfl (L' := [_, _, _]) rfl ?_
  refine s_iconst dX8_countLiving_2 ?_
  refine s_istore_n dX8_countLiving_3 (by decide) rfl (L' := [_, _, _]) rfl ?_
  exact lp_X8_countLiving (by omega) C (z 0 1).toNat 0 0 (by omega) (by omega) (fun y e => by rw [e, Int.zero_add]; exact k)
set_option maxRecDepth 100000 in
set_option maxHeartbeats 4000000 in
theorem lp_X8_countHeld   {z : PH} (hd : 2 ≤ d) (C : CR_ h z) : ∀ (m : Nat) (i a : Int), (0 ≤ i) → (i + m = z 0 0) → (∀ y, y = a + sumI (fun x => if z 1 (8 + x) = 0 then 1 else 0) i m → Q.1 (some (0, y)) nN h) → S_ MX8_countHeld d bc bs Q 4 [(2, 0), (0, a), (0, i)] [] nN h := by
  intro m
  induction m with
  | zero =>
    intro i a i0 i1 k
    have hG := cr_g C
    have I := cr_i C
    obtain ⟨w, hw, W, hwf, P, CN⟩ := cr_w C
    have hT := I.2.1
    have hP := I.2.2.1
    have hN := I.2.2.2.1
    have eP := P.1.2.1
    have eT := P.1.1
    have eN := P.1.2.2
    refine s_iload_n dX8_countHeld_4 rfl ?_
    refine s_aload_n dX8_countHeld_5 rfl ?_
    refine s_getr dX8_countHeld_6 fl_X8_25 kl_6 (by decide) rfl io_0 (z := 3) rfl (by first | exact hw | (simp (disch := omega) only [hs_same, hs_ne, fl_in, fl_ne, cp_inn, cp_nee]; exact hw)) (W).1 ?_
    refine s_getr dX8_countHeld_9 fl_X8_118 kl_5 (by decide) rfl W (z := 0) rfl (rf_5_0 hG.1 W) (rk_5_0 W).1 ?_
    refine s_geti dX8_countHeld_12 fl_X8_339 kl_2 (by decide) rfl (rk_5_0 W) (z := 1) rfl ?_
    refine s_icmp_ge (tgt := 43) dX8_countHeld_15 (by decide) (by first | exact hG.2 _ _ | exact b01_in _ | assumption | exact ⟨by omega, by omega⟩) (by first | exact hG.2 _ _ | exact b01_in _ | assumption | exact ⟨by omega, by omega⟩) (fun c1 => ?_) (fun c1 => ?_)
    · refine s_iload_n dX8_countHeld_43 rfl ?_
      exact s_ireturn dX8_countHeld_44 rfl (k _ (by simp only [sumI]; omega))
    · exact absurd c1 (by omega)
  | succ m ih =>
    intro i a i0 i1 k
    have hG := cr_g C
    have I := cr_i C
    obtain ⟨w, hw, W, hwf, P, CN⟩ := cr_w C
    have hT := I.2.1
    have hP := I.2.2.1
    have hN := I.2.2.2.1
    have eP := P.1.2.1
    have eT := P.1.1
    have eN := P.1.2.2
    refine s_iload_n dX8_countHeld_4 rfl ?_
    refine s_aload_n dX8_countHeld_5 rfl ?_
    refine s_getr dX8_countHeld_6 fl_X8_25 kl_6 (by decide) rfl io_0 (z := 3) rfl (by first | exact hw | (simp (disch := omega) only [hs_same, hs_ne, fl_in, fl_ne, cp_inn, cp_nee]; exact hw)) (W).1 ?_
    refine s_getr dX8_countHeld_9 fl_X8_118 kl_5 (by decide) rfl W (z := 0) rfl (rf_5_0 hG.1 W) (rk_5_0 W).1 ?_
    refine s_geti dX8_countHeld_12 fl_X8_339 kl_2 (by decide) rfl (rk_5_0 W) (z := 1) rfl ?_
    refine s_icmp_ge (tgt := 43) dX8_countHeld_15 (by decide) (by first | exact hG.2 _ _ | exact b01_in _ | assumption | exact ⟨by omega, by omega⟩) (by first | exact hG.2 _ _ | exact b01_in _ | assumption | exact ⟨by omega, by omega⟩) (fun c1 => ?_) (fun c1 => ?_)
    · exact absurd c1 (by omega)
    · refine s_iload_n dX8_countHeld_18 rfl ?_
      refine s_aload_n dX8_countHeld_19 rfl ?_
      refine s_getr dX8_countHeld_20 fl_X8_32 kl_6 (by decide) rfl io_0 (z := 4) rfl (rf_6_4 hG.1 io_0) (rk_6_4 io_0).1 ?_
      refine s_iload_n dX8_countHeld_23 rfl ?_
      refine s_callV (d' := d - 1) (bc' := 0) (bs' := 0) (as := [_]) dX8_countHeld_24 vf_X8_131 (dd_ (by omega) (by decide)) ⟨Nat.zero_le _, Nat.zero_le _⟩ rfl rfl (Nat.le_of_ble_eq_true rfl) kl_1 rfl (rk_6_4 io_0) ?_
      refine c_X2_isHeld (rk_6_4 io_0) hG (by omega) (by omega) ?_
      rw [P.2.1 _ (by omega) (by omega)]
      refine s_if_eq (tgt := 34) dX8_countHeld_27 (by decide) (by first | exact hG.2 _ _ | exact b01_in _ | assumption | exact ⟨by omega, by omega⟩) (fun c2 => ?_) (fun c2 => ?_)
      · have c2 := b01_0.mp c2
        refine s_iconst dX8_countHeld_34 ?_
        refine s_iadd dX8_countHeld_35 ?_
        refine s_istore_n dX8_countHeld_36 (by decide) rfl (L' := [_, _, _]) rfl ?_
        refine s_iinc dX8_countHeld_37 rfl (by decide) rfl (L' := [_, _, _]) rfl ?_
        refine s_goto (tgt := 4) dX8_countHeld_40 (by decide) ?_
        exact ih (i + 1) _ (by omega) (by omega) (fun y e => k y (by rw [e]; simp only [sumI]; split <;> omega))
      · have c2 := b01_n.mp c2
        refine s_iconst dX8_countHeld_30 ?_
        refine s_goto (tgt := 35) dX8_countHeld_31 (by decide) ?_
        refine s_iadd dX8_countHeld_35 ?_
        refine s_istore_n dX8_countHeld_36 (by decide) rfl (L' := [_, _, _]) rfl ?_
        refine s_iinc dX8_countHeld_37 rfl (by decide) rfl (L' := [_, _, _]) rfl ?_
        refine s_goto (tgt := 4) dX8_countHeld_40 (by decide) ?_
        exact ih (i + 1) _ (by omega) (by omega) (fun y e => k y (by rw [e]; simp only [sumI]; split <;> omega))
set_option maxRecDepth 100000 in
set_option maxHeartbeats 4000000 in
theorem c_X8_countHeld {z : PH} (hd : 3 ≤ d) (C : CR_ h z) (k : Q.1 (some (0, zheld z)) nN h)  : Cl_ yX8_countHeld MX8_countHeld d bc bs [(2, 0)] nN h Q := by
  refine s_enter pn_X8 rfl (Nat.le_of_ble_eq_true rfl) (L := [(2, _), (9, 0), (9, 0)]) rfl ?_
  have hG := cr_g C
  have I := cr_i C
  obtain ⟨w, hw, W, hwf, P, CN⟩ := cr_w C
  have hT := I.2.1
  have hP := I.2.2.1
  have hN := I.2.2.2.1
  have eP := P.1.2.1
  have eT := P.1.1
  have eN := P.1.2.2
  refine s_iconst dX8_countHeld_0 ?_
  refine s_istore_n dX8_countHeld_1 (by decide) rfl (L' := [_, _, _]) rfl ?_
  refine s_iconst dX8_countHeld_2 ?_
  refine s_istore_n dX8_countHeld_3 (by decide) rfl (L' := [_, _, _]) rfl ?_
  exact lp_X8_countHeld (by omega) C (z 0 0).toNat 0 0 (by omega) (by omega) (fun y e => by rw [e, Int.zero_add]; exact k)
set_option maxRecDepth 100000 in
set_option maxHeartbeats 4000000 in
theorem lp_X8_countRenounced   {z : PH} (hd : 2 ≤ d) (C : CR_ h z) : ∀ (m : Nat) (i a : Int), (0 ≤ i) → (i + m = z 0 2) → (∀ y, y = a + sumI (fun x => if z 1 (44 + x) = 0 then 0 else 1) i m → Q.1 (some (0, y)) nN h) → S_ MX8_countRenounced d bc bs Q 4 [(2, 0), (0, a), (0, i)] [] nN h := by
  intro m
  induction m with
  | zero =>
    intro i a i0 i1 k
    have hG := cr_g C
    have I := cr_i C
    obtain ⟨w, hw, W, hwf, P, CN⟩ := cr_w C
    have hT := I.2.1
    have hP := I.2.2.1
    have hN := I.2.2.2.1
    have eP := P.1.2.1
    have eT := P.1.1
    have eN := P.1.2.2
    refine s_iload_n dX8_countRenounced_4 rfl ?_
    refine s_aload_n dX8_countRenounced_5 rfl ?_
    refine s_getr dX8_countRenounced_6 fl_X8_25 kl_6 (by decide) rfl io_0 (z := 3) rfl (by first | exact hw | (simp (disch := omega) only [hs_same, hs_ne, fl_in, fl_ne, cp_inn, cp_nee]; exact hw)) (W).1 ?_
    refine s_geti dX8_countRenounced_9 fl_X8_96 kl_5 (by decide) rfl W (z := 7) rfl ?_
    refine s_icmp_ge (tgt := 40) dX8_countRenounced_12 (by decide) (by first | exact hG.2 _ _ | exact b01_in _ | assumption | exact ⟨by omega, by omega⟩) (by first | exact hG.2 _ _ | exact b01_in _ | assumption | exact ⟨by omega, by omega⟩) (fun c1 => ?_) (fun c1 => ?_)
    · refine s_iload_n dX8_countRenounced_40 rfl ?_
      exact s_ireturn dX8_countRenounced_41 rfl (k _ (by simp only [sumI]; omega))
    · exact absurd c1 (by omega)
  | succ m ih =>
    intro i a i0 i1 k
    have hG := cr_g C
    have I := cr_i C
    obtain ⟨w, hw, W, hwf, P, CN⟩ := cr_w C
    have hT := I.2.1
    have hP := I.2.2.1
    have hN := I.2.2.2.1
    have eP := P.1.2.1
    have eT := P.1.1
    have eN := P.1.2.2
    refine s_iload_n dX8_countRenounced_4 rfl ?_
    refine s_aload_n dX8_countRenounced_5 rfl ?_
    refine s_getr dX8_countRenounced_6 fl_X8_25 kl_6 (by decide) rfl io_0 (z := 3) rfl (by first | exact hw | (simp (disch := omega) only [hs_same, hs_ne, fl_in, fl_ne, cp_inn, cp_nee]; exact hw)) (W).1 ?_
    refine s_geti dX8_countRenounced_9 fl_X8_96 kl_5 (by decide) rfl W (z := 7) rfl ?_
    refine s_icmp_ge (tgt := 40) dX8_countRenounced_12 (by decide) (by first | exact hG.2 _ _ | exact b01_in _ | assumption | exact ⟨by omega, by omega⟩) (by first | exact hG.2 _ _ | exact b01_in _ | assumption | exact ⟨by omega, by omega⟩) (fun c1 => ?_) (fun c1 => ?_)
    · exact absurd c1 (by omega)
    · refine s_iload_n dX8_countRenounced_15 rfl ?_
      refine s_aload_n dX8_countRenounced_16 rfl ?_
      refine s_getr dX8_countRenounced_17 fl_X8_32 kl_6 (by decide) rfl io_0 (z := 4) rfl (rf_6_4 hG.1 io_0) (rk_6_4 io_0).1 ?_
      refine s_iload_n dX8_countRenounced_20 rfl ?_
      refine s_callV (d' := d - 1) (bc' := 0) (bs' := 0) (as := [_]) dX8_countRenounced_21 vf_X8_234 (dd_ (by omega) (by decide)) ⟨Nat.zero_le _, Nat.zero_le _⟩ rfl rfl (Nat.le_of_ble_eq_true rfl) kl_1 rfl (rk_6_4 io_0) ?_
      refine c_X2_isRenounced (rk_6_4 io_0) hG (by omega) (by omega) ?_
      rw [P.2.1 _ (by omega) (by omega)]
      refine s_if_eq (tgt := 31) dX8_countRenounced_24 (by decide) (by first | exact hG.2 _ _ | exact b01_in _ | assumption | exact ⟨by omega, by omega⟩) (fun c2 => ?_) (fun c2 => ?_)
      · have c2 := b01_0.mp c2
        refine s_iconst dX8_countRenounced_31 ?_
        refine s_iadd dX8_countRenounced_32 ?_
        refine s_istore_n dX8_countRenounced_33 (by decide) rfl (L' := [_, _, _]) rfl ?_
        refine s_iinc dX8_countRenounced_34 rfl (by decide) rfl (L' := [_, _, _]) rfl ?_
        refine s_goto (tgt := 4) dX8_countRenounced_37 (by decide) ?_
        exact ih (i + 1) _ (by omega) (by omega) (fun y e => k y (by rw [e]; simp only [sumI]; split <;> omega))
      · have c2 := b01_n.mp c2
        refine s_iconst dX8_countRenounced_27 ?_
        refine s_goto (tgt := 32) dX8_countRenounced_28 (by decide) ?_
        refine s_iadd dX8_countRenounced_32 ?_
        refine s_istore_n dX8_countRenounced_33 (by decide) rfl (L' := [_, _, _]) rfl ?_
        refine s_iinc dX8_countRenounced_34 rfl (by decide) rfl (L' := [_, _, _]) rfl ?_
        refine s_goto (tgt := 4) dX8_countRenounced_37 (by decide) ?_
        exact ih (i + 1) _ (by omega) (by omega) (fun y e => k y (by rw [e]; simp only [sumI]; split <;> omega))
set_option maxRecDepth 100000 in
set_option maxHeartbeats 4000000 in
theorem c_X8_countRenounced {z : PH} (hd : 3 ≤ d) (C : CR_ h z) (k : Q.1 (some (0, zren z)) nN h)  : Cl_ yX8_countRenounced MX8_countRenounced d bc bs [(2, 0)] nN h Q := by
  refine s_enter pn_X8 rfl (Nat.le_of_ble_eq_true rfl) (L := [(2, _), (9, 0), (9, 0)]) rfl ?_
  have hG := cr_g C
  have I := cr_i C
  obtain ⟨w, hw, W, hwf, P, CN⟩ := cr_w C
  have hT := I.2.1
  have hP := I.2.2.1
  have hN := I.2.2.2.1
  have eP := P.1.2.1
  have eT := P.1.1
  have eN := P.1.2.2
  refine s_iconst dX8_countRenounced_0 ?_
  refine s_istore_n dX8_countRenounced_1 (by decide) rfl (L' := [_, _, _]) rfl ?_
  refine s_iconst dX8_countRenounced_2 ?_
  refine s_istore_n dX8_countRenounced_3 (by decide) rfl (L' := [_, _, _]) rfl ?_
  exact lp_X8_countRenounced (by omega) C (z 0 2).toNat 0 0 (by omega) (by omega) (fun y e => by rw [e, Int.zero_add]; exact k)
end X8D
