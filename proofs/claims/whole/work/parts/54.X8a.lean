/-! WillHouse: what a call needs -/
section X8A
variable {d bc bs : Nat} {Q : PQ} {h z : PH}
set_option maxRecDepth 100000 in
set_option maxHeartbeats 4000000 in
theorem c_X8_checkThing {t : Int} (hd : 6 ≤ d) (hbc : 1 ≤ bc) (hbs : 6 ≤ bs) (C : CR_ h z) (ht : inI t) (k : 0 ≤ t → t < z 0 0 → Q.1 none nN h) (kx : ¬ (0 ≤ t ∧ t < z 0 0) → Q.2 IOB nN h) : Cl_ yX8_checkThing MX8_checkThing d bc bs [(2, 0), (0, t)] nN h Q := by
  refine s_enter pn_X8 rfl (Nat.le_of_ble_eq_true rfl) (L := [(2, _), (0, _)]) rfl ?_
  have hG := cr_g C
  have I := cr_i C
  obtain ⟨w, hw, W, hwf, P, CN⟩ := cr_w C
  have en := P.1.1
  refine s_iload_n dX8_checkThing_0 rfl ?_
  refine s_if_lt (tgt := 18) dX8_checkThing_1 (by decide) (by first | exact hG.2 _ _ | exact b01_in _ | assumption | exact ⟨by omega, by omega⟩) (fun c1 => ?_) (fun c1 => ?_)
  · refine s_throwW nh_0 dX8_checkThing_18 dX8_checkThing_21 dX8_checkThing_22 dX8_checkThing_25 dX8_checkThing_28 ts_X8_399_401_403 bf_IOB (by omega) (by omega) (by omega) (Nat.le_of_ble_eq_true rfl) ?_
    exact kx (by omega)
  · refine s_iload_n dX8_checkThing_4 rfl ?_
    refine s_aload_n dX8_checkThing_5 rfl ?_
    refine s_getr dX8_checkThing_6 fl_X8_25 kl_6 (by decide) rfl io_0 (z := 3) rfl (by first | exact hw | (simp (disch := omega) only [hs_same, hs_ne, fl_in, fl_ne, cp_inn, cp_nee]; exact hw)) (W).1 ?_
    refine s_getr dX8_checkThing_9 fl_X8_118 kl_5 (by decide) rfl W (z := 0) rfl (rf_5_0 hG.1 W) (rk_5_0 W).1 ?_
    refine s_geti dX8_checkThing_12 fl_X8_339 kl_2 (by decide) rfl (rk_5_0 W) (z := 1) rfl ?_
    refine s_icmp_lt (tgt := 29) dX8_checkThing_15 (by decide) (by first | exact hG.2 _ _ | exact b01_in _ | assumption | exact ⟨by omega, by omega⟩) (by first | exact hG.2 _ _ | exact b01_in _ | assumption | exact ⟨by omega, by omega⟩) (fun c2 => ?_) (fun c2 => ?_)
    · exact s_return dX8_checkThing_29 rfl (k (by omega) (by omega))
    · refine s_throwW nh_0 dX8_checkThing_18 dX8_checkThing_21 dX8_checkThing_22 dX8_checkThing_25 dX8_checkThing_28 ts_X8_399_401_403 bf_IOB (by omega) (by omega) (by omega) (Nat.le_of_ble_eq_true rfl) ?_
      exact kx (by omega)
set_option maxRecDepth 100000 in
set_option maxHeartbeats 4000000 in
theorem c_X8_checkPerson {t : Int} (hd : 6 ≤ d) (hbc : 1 ≤ bc) (hbs : 6 ≤ bs) (C : CR_ h z) (ht : inI t) (k : 0 ≤ t → t < z 0 1 → Q.1 none nN h) (kx : ¬ (0 ≤ t ∧ t < z 0 1) → Q.2 IOB nN h) : Cl_ yX8_checkPerson MX8_checkPerson d bc bs [(2, 0), (0, t)] nN h Q := by
  refine s_enter pn_X8 rfl (Nat.le_of_ble_eq_true rfl) (L := [(2, _), (0, _)]) rfl ?_
  have hG := cr_g C
  have I := cr_i C
  obtain ⟨w, hw, W, hwf, P, CN⟩ := cr_w C
  have en := P.1.2.1
  refine s_iload_n dX8_checkPerson_0 rfl ?_
  refine s_if_lt (tgt := 18) dX8_checkPerson_1 (by decide) (by first | exact hG.2 _ _ | exact b01_in _ | assumption | exact ⟨by omega, by omega⟩) (fun c1 => ?_) (fun c1 => ?_)
  · refine s_throwW nh_0 dX8_checkPerson_18 dX8_checkPerson_21 dX8_checkPerson_22 dX8_checkPerson_25 dX8_checkPerson_28 ts_X8_399_404_403 bf_IOB (by omega) (by omega) (by omega) (Nat.le_of_ble_eq_true rfl) ?_
    exact kx (by omega)
  · refine s_iload_n dX8_checkPerson_4 rfl ?_
    refine s_aload_n dX8_checkPerson_5 rfl ?_
    refine s_getr dX8_checkPerson_6 fl_X8_25 kl_6 (by decide) rfl io_0 (z := 3) rfl (by first | exact hw | (simp (disch := omega) only [hs_same, hs_ne, fl_in, fl_ne, cp_inn, cp_nee]; exact hw)) (W).1 ?_
    refine s_getr dX8_checkPerson_9 fl_X8_105 kl_5 (by decide) rfl W (z := 3) rfl (rf_5_3 hG.1 W) (rk_5_3 W).1 ?_
    refine s_geti dX8_checkPerson_12 fl_X8_339 kl_2 (by decide) rfl (rk_5_3 W) (z := 1) rfl ?_
    refine s_icmp_lt (tgt := 29) dX8_checkPerson_15 (by decide) (by first | exact hG.2 _ _ | exact b01_in _ | assumption | exact ⟨by omega, by omega⟩) (by first | exact hG.2 _ _ | exact b01_in _ | assumption | exact ⟨by omega, by omega⟩) (fun c2 => ?_) (fun c2 => ?_)
    · exact s_return dX8_checkPerson_29 rfl (k (by omega) (by omega))
    · refine s_throwW nh_0 dX8_checkPerson_18 dX8_checkPerson_21 dX8_checkPerson_22 dX8_checkPerson_25 dX8_checkPerson_28 ts_X8_399_404_403 bf_IOB (by omega) (by omega) (by omega) (Nat.le_of_ble_eq_true rfl) ?_
      exact kx (by omega)
set_option maxRecDepth 100000 in
set_option maxHeartbeats 4000000 in
theorem c_X8_checkGift {t : Int} (hd : 6 ≤ d) (hbc : 1 ≤ bc) (hbs : 6 ≤ bs) (C : CR_ h z) (ht : inI t) (k : 0 ≤ t → t < z 0 2 → Q.1 none nN h) (kx : ¬ (0 ≤ t ∧ t < z 0 2) → Q.2 IOB nN h) : Cl_ yX8_checkGift MX8_checkGift d bc bs [(2, 0), (0, t)] nN h Q := by
  refine s_enter pn_X8 rfl (Nat.le_of_ble_eq_true rfl) (L := [(2, _), (0, _)]) rfl ?_
  have hG := cr_g C
  have I := cr_i C
  obtain ⟨w, hw, W, hwf, P, CN⟩ := cr_w C
  have en := P.1.2.2
  refine s_iload_n dX8_checkGift_0 rfl ?_
  refine s_if_lt (tgt := 15) dX8_checkGift_1 (by decide) (by first | exact hG.2 _ _ | exact b01_in _ | assumption | exact ⟨by omega, by omega⟩) (fun c1 => ?_) (fun c1 => ?_)
  · refine s_throwW nh_0 dX8_checkGift_15 dX8_checkGift_18 dX8_checkGift_19 dX8_checkGift_22 dX8_checkGift_25 ts_X8_399_406_403 bf_IOB (by omega) (by omega) (by omega) (Nat.le_of_ble_eq_true rfl) ?_
    exact kx (by omega)
  · refine s_iload_n dX8_checkGift_4 rfl ?_
    refine s_aload_n dX8_checkGift_5 rfl ?_
    refine s_getr dX8_checkGift_6 fl_X8_25 kl_6 (by decide) rfl io_0 (z := 3) rfl (by first | exact hw | (simp (disch := omega) only [hs_same, hs_ne, fl_in, fl_ne, cp_inn, cp_nee]; exact hw)) (W).1 ?_
    refine s_geti dX8_checkGift_9 fl_X8_96 kl_5 (by decide) rfl W (z := 7) rfl ?_
    refine s_icmp_lt (tgt := 26) dX8_checkGift_12 (by decide) (by first | exact hG.2 _ _ | exact b01_in _ | assumption | exact ⟨by omega, by omega⟩) (by first | exact hG.2 _ _ | exact b01_in _ | assumption | exact ⟨by omega, by omega⟩) (fun c2 => ?_) (fun c2 => ?_)
    · exact s_return dX8_checkGift_26 rfl (k (by omega) (by omega))
    · refine s_throwW nh_0 dX8_checkGift_15 dX8_checkGift_18 dX8_checkGift_19 dX8_checkGift_22 dX8_checkGift_25 ts_X8_399_406_403 bf_IOB (by omega) (by omega) (by omega) (Nat.le_of_ble_eq_true rfl) ?_
      exact kx (by omega)
set_option maxRecDepth 100000 in
set_option maxHeartbeats 4000000 in
theorem c_X8_checkClass {t m : Int} (hd : 6 ≤ d) (hbc : 1 ≤ bc) (hbs : 6 ≤ bs) (hG : G h) (ht : inI t) (hm : inI m) (k : 0 ≤ t → t ≤ m → Q.1 none nN h) (kx : ¬ (0 ≤ t ∧ t ≤ m) → Q.2 IAE nN h) : Cl_ yX8_checkClass MX8_checkClass d bc bs [(2, 0), (0, t), (0, m)] nN h Q := by
  refine s_enter pn_X8 rfl (Nat.le_of_ble_eq_true rfl) (L := [(2, _), (0, _), (0, _)]) rfl ?_
  refine s_iload_n dX8_checkClass_0 rfl ?_
  refine s_if_lt (tgt := 9) dX8_checkClass_1 (by decide) (by first | exact hG.2 _ _ | exact b01_in _ | assumption | exact ⟨by omega, by omega⟩) (fun c1 => ?_) (fun c1 => ?_)
  · refine s_throwW nh_0 dX8_checkClass_9 dX8_checkClass_12 dX8_checkClass_13 dX8_checkClass_16 dX8_checkClass_19 ts_X8_207_408_211 bf_IAE (by omega) (by omega) (by omega) (Nat.le_of_ble_eq_true rfl) ?_
    exact kx (by omega)
  · refine s_iload_n dX8_checkClass_4 rfl ?_
    refine s_iload_n dX8_checkClass_5 rfl ?_
    refine s_icmp_le (tgt := 20) dX8_checkClass_6 (by decide) (by first | exact hG.2 _ _ | exact b01_in _ | assumption | exact ⟨by omega, by omega⟩) (by first | exact hG.2 _ _ | exact b01_in _ | assumption | exact ⟨by omega, by omega⟩) (fun c2 => ?_) (fun c2 => ?_)
    · exact s_return dX8_checkClass_20 rfl (k (by omega) (by omega))
    · refine s_throwW nh_0 dX8_checkClass_9 dX8_checkClass_12 dX8_checkClass_13 dX8_checkClass_16 dX8_checkClass_19 ts_X8_207_408_211 bf_IAE (by omega) (by omega) (by omega) (Nat.le_of_ble_eq_true rfl) ?_
      exact kx (by omega)
set_option maxRecDepth 100000 in
set_option maxHeartbeats 4000000 in
theorem c_X8_checkHeld {t : Int} (hd : 7 ≤ d) (hbc : 1 ≤ bc) (hbs : 6 ≤ bs) (C : CR_ h z) (t0 : 0 ≤ t) (t1 : t < z 0 0) (k : z 1 (8 + t) = 0 → Q.1 none nN h) (kx : ¬ z 1 (8 + t) = 0 → Q.2 ISE nN h) : Cl_ yX8_checkHeld MX8_checkHeld d bc bs [(2, 0), (0, t)] nN h Q := by
  refine s_enter pn_X8 rfl (Nat.le_of_ble_eq_true rfl) (L := [(2, _), (0, _)]) rfl ?_
  have hG := cr_g C
  have I := cr_i C
  obtain ⟨w, hw, W, hwf, P, CN⟩ := cr_w C
  have hT := I.2.1
  refine s_aload_n dX8_checkHeld_0 rfl ?_
  refine s_getr dX8_checkHeld_1 fl_X8_32 kl_6 (by decide) rfl io_0 (z := 4) rfl (rf_6_4 hG.1 io_0) (rk_6_4 io_0).1 ?_
  refine s_iload_n dX8_checkHeld_4 rfl ?_
  refine s_callV (d' := d - 1) (bc' := 0) (bs' := 0) (as := [_]) dX8_checkHeld_5 vf_X8_131 (dd_ (by omega) (by decide)) ⟨by omega, by omega⟩ rfl rfl (Nat.le_of_ble_eq_true rfl) kl_1 rfl (rk_6_4 io_0) ?_
  refine c_X2_isHeld (rk_6_4 io_0) hG (by omega) (by omega) ?_
  rw [P.2.1 _ (by omega) (by omega)]
  refine s_if_ne (tgt := 22) dX8_checkHeld_8 (by decide) (by first | exact hG.2 _ _ | exact b01_in _ | assumption | exact ⟨by omega, by omega⟩) (fun c1 => ?_) (fun c1 => ?_)
  · have c1 := b01_n.mp c1
    exact s_return dX8_checkHeld_22 rfl (k (by omega))
  · have c1 := b01_0.mp c1
    refine s_throwW nh_0 dX8_checkHeld_11 dX8_checkHeld_14 dX8_checkHeld_15 dX8_checkHeld_18 dX8_checkHeld_21 ts_X8_410_412_414 bf_ISE (by omega) (by omega) (by omega) (Nat.le_of_ble_eq_true rfl) ?_
    exact kx (by omega)
set_option maxRecDepth 100000 in
set_option maxHeartbeats 4000000 in
theorem c_X8_checkLives {p : Int} (hd : 7 ≤ d) (hbc : 1 ≤ bc) (hbs : 6 ≤ bs) (C : CR_ h z) (p0 : 0 ≤ p) (p1 : p < z 0 1) (k : z 1 (32 + p) = 0 → Q.1 none nN h) (kx : ¬ z 1 (32 + p) = 0 → Q.2 ISE nN h) : Cl_ yX8_checkLives MX8_checkLives d bc bs [(2, 0), (0, p)] nN h Q := by
  refine s_enter pn_X8 rfl (Nat.le_of_ble_eq_true rfl) (L := [(2, _), (0, _)]) rfl ?_
  have hG := cr_g C
  have I := cr_i C
  obtain ⟨w, hw, W, hwf, P, CN⟩ := cr_w C
  have hP := I.2.2.1
  refine s_aload_n dX8_checkLives_0 rfl ?_
  refine s_getr dX8_checkLives_1 fl_X8_32 kl_6 (by decide) rfl io_0 (z := 4) rfl (rf_6_4 hG.1 io_0) (rk_6_4 io_0).1 ?_
  refine s_iload_n dX8_checkLives_4 rfl ?_
  refine s_callV (d' := d - 1) (bc' := 0) (bs' := 0) (as := [_]) dX8_checkLives_5 vf_X8_156 (dd_ (by omega) (by decide)) ⟨by omega, by omega⟩ rfl rfl (Nat.le_of_ble_eq_true rfl) kl_1 rfl (rk_6_4 io_0) ?_
  refine c_X2_isDead (rk_6_4 io_0) hG (by omega) (by omega) ?_
  rw [P.2.1 _ (by omega) (by omega)]
  refine s_if_eq (tgt := 22) dX8_checkLives_8 (by decide) (by first | exact hG.2 _ _ | exact b01_in _ | assumption | exact ⟨by omega, by omega⟩) (fun c1 => ?_) (fun c1 => ?_)
  · have c1 := b01_0.mp c1
    exact s_return dX8_checkLives_22 rfl (k (by omega))
  · have c1 := b01_n.mp c1
    refine s_throwW nh_0 dX8_checkLives_11 dX8_checkLives_14 dX8_checkLives_15 dX8_checkLives_18 dX8_checkLives_21 ts_X8_410_415_414 bf_ISE (by omega) (by omega) (by omega) (Nat.le_of_ble_eq_true rfl) ?_
    exact kx (by omega)
set_option maxRecDepth 100000 in
set_option maxHeartbeats 4000000 in
theorem c_X8_checkSale {t p v : Int} (hd : 8 ≤ d) (hbc : 2 ≤ bc) (hbs : 12 ≤ bs) (C : CR_ h z) (t0 : 0 ≤ t) (t1 : t < z 0 0) (hp : inI p) (hv : inI v) (k : 1 ≤ p → p ≤ 9999 → 0 ≤ v → v ≤ p → z 1 (8 + t) = 0 → z 1 56 + p - v ≤ 99999 → Q.1 none nN h) (k1 : ¬ (1 ≤ p ∧ p ≤ 9999 ∧ 0 ≤ v ∧ v ≤ p) → Q.2 IAE nN h) (k2 : (1 ≤ p ∧ p ≤ 9999 ∧ 0 ≤ v ∧ v ≤ p) → ¬ (z 1 (8 + t) = 0 ∧ z 1 56 + p - v ≤ 99999) → Q.2 ISE nN h) : Cl_ yX8_checkSale MX8_checkSale d bc bs [(2, 0), (0, t), (0, p), (0, v)] nN h Q := by
  refine s_enter pn_X8 rfl (Nat.le_of_ble_eq_true rfl) (L := [(2, _), (0, _), (0, _), (0, _)]) rfl ?_
  have hG := cr_g C
  have I := cr_i C
  obtain ⟨w, hw, W, hwf, P, CN⟩ := cr_w C
  have hc := I.1.2.2.1
  have hT := I.2.1
  refine s_iload_n dX8_checkSale_0 rfl ?_
  refine s_iconst dX8_checkSale_1 ?_
  refine s_icmp_lt (tgt := 21) dX8_checkSale_2 (by decide) (by first | exact hG.2 _ _ | exact b01_in _ | assumption | exact ⟨by omega, by omega⟩) (by first | exact hG.2 _ _ | exact b01_in _ | assumption | exact ⟨by omega, by omega⟩) (fun c1 => ?_) (fun c1 => ?_)
  · refine s_throwW nh_0 dX8_checkSale_21 dX8_checkSale_24 dX8_checkSale_25 dX8_checkSale_28 dX8_checkSale_31 ts_X8_207_417_211 bf_IAE (by omega) (by omega) (by omega) (Nat.le_of_ble_eq_true rfl) ?_
    exact k1 (by omega)
  · refine s_iload_n dX8_checkSale_5 rfl ?_
    refine s_sipush dX8_checkSale_6 (by decide) ?_
    refine s_icmp_gt (tgt := 21) dX8_checkSale_9 (by decide) (by first | exact hG.2 _ _ | exact b01_in _ | assumption | exact ⟨by omega, by omega⟩) (by first | exact hG.2 _ _ | exact b01_in _ | assumption | exact ⟨by omega, by omega⟩) (fun c2 => ?_) (fun c2 => ?_)
    · refine s_throwW nh_0 dX8_checkSale_21 dX8_checkSale_24 dX8_checkSale_25 dX8_checkSale_28 dX8_checkSale_31 ts_X8_207_417_211 bf_IAE (by omega) (by omega) (by omega) (Nat.le_of_ble_eq_true rfl) ?_
      exact k1 (by omega)
    · refine s_iload_n dX8_checkSale_12 rfl ?_
      refine s_if_lt (tgt := 21) dX8_checkSale_13 (by decide) (by first | exact hG.2 _ _ | exact b01_in _ | assumption | exact ⟨by omega, by omega⟩) (fun c3 => ?_) (fun c3 => ?_)
      · refine s_throwW nh_0 dX8_checkSale_21 dX8_checkSale_24 dX8_checkSale_25 dX8_checkSale_28 dX8_checkSale_31 ts_X8_207_417_211 bf_IAE (by omega) (by omega) (by omega) (Nat.le_of_ble_eq_true rfl) ?_
        exact k1 (by omega)
      · refine s_iload_n dX8_checkSale_16 rfl ?_
        refine s_iload_n dX8_checkSale_17 rfl ?_
        refine s_icmp_le (tgt := 32) dX8_checkSale_18 (by decide) (by first | exact hG.2 _ _ | exact b01_in _ | assumption | exact ⟨by omega, by omega⟩) (by first | exact hG.2 _ _ | exact b01_in _ | assumption | exact ⟨by omega, by omega⟩) (fun c4 => ?_) (fun c4 => ?_)
        · refine s_aload_n dX8_checkSale_32 rfl ?_
          refine s_iload_n dX8_checkSale_33 rfl ?_
          refine s_callV (d' := d - 1) (bc' := 1) (bs' := 6) (as := [_]) dX8_checkSale_34 vf_X8_212 (dd_ (by omega) (by decide)) ⟨by omega, by omega⟩ rfl rfl (Nat.le_of_ble_eq_true rfl) kl_6 rfl io_0 ?_
          refine c_X8_checkHeld (by omega) (by omega) (by omega) C t0 t1 (fun hh => ?_) (fun hh => k2 (by omega) (by omega))
          refine s_aload_n dX8_checkSale_37 rfl ?_
          refine s_getr dX8_checkSale_38 fl_X8_32 kl_6 (by decide) rfl io_0 (z := 4) rfl (rf_6_4 hG.1 io_0) (rk_6_4 io_0).1 ?_
          refine s_iconst dX8_checkSale_41 ?_
          refine s_callV (d' := d - 1) (bc' := 0) (bs' := 0) (as := [_]) dX8_checkSale_42 vf_X8_204 (dd_ (by omega) (by decide)) ⟨by omega, by omega⟩ rfl rfl (Nat.le_of_ble_eq_true rfl) kl_1 rfl (rk_6_4 io_0) ?_
          refine c_X2_told (rk_6_4 io_0) hG (by omega) (by omega) ?_
          rw [P.2.1 _ (by omega) (by omega)]
          rw [show (56 : Int) + 0 = 56 by rfl]
          refine s_iload_n dX8_checkSale_45 rfl ?_
          refine s_iadd dX8_checkSale_46 ?_
          refine s_iload_n dX8_checkSale_47 rfl ?_
          refine s_isub dX8_checkSale_48 ?_
          refine s_ldcw dX8_checkSale_49 kc_X8_315 ?_
          refine s_icmp_le (tgt := 66) dX8_checkSale_52 (by decide) (by first | exact hG.2 _ _ | exact b01_in _ | assumption | exact ⟨by omega, by omega⟩) (by first | exact hG.2 _ _ | exact b01_in _ | assumption | exact ⟨by omega, by omega⟩) (fun c5 => ?_) (fun c5 => ?_)
          · exact s_return dX8_checkSale_66 rfl (k (by omega) (by omega) (by omega) (by omega) hh (by omega))
          · refine s_throwW nh_0 dX8_checkSale_55 dX8_checkSale_58 dX8_checkSale_59 dX8_checkSale_62 dX8_checkSale_65 ts_X8_410_419_414 bf_ISE (by omega) (by omega) (by omega) (Nat.le_of_ble_eq_true rfl) ?_
            exact k2 (by omega) (by omega)
        · refine s_throwW nh_0 dX8_checkSale_21 dX8_checkSale_24 dX8_checkSale_25 dX8_checkSale_28 dX8_checkSale_31 ts_X8_207_417_211 bf_IAE (by omega) (by omega) (by omega) (Nat.le_of_ble_eq_true rfl) ?_
          exact k1 (by omega)
set_option maxRecDepth 100000 in
set_option maxHeartbeats 4000000 in
theorem c_X8_reckoning  (hd : 7 ≤ d) (C : CR_ h z) (k : ∀ h1 : PH, G h1 → CR_ h1 z → h1 0 7 = 0 → FC h h1 → Q.1 (some (2, 0 + 99)) nN h1) : Cl_ yX8_reckoning MX8_reckoning d bc bs [(2, 0)] nN h Q := by
  refine s_enter pn_X8 rfl (Nat.le_of_ble_eq_true rfl) (L := [(2, _)]) rfl ?_
  have hG := cr_g C
  have I := cr_i C
  obtain ⟨w, hw, W, hwf, P, CN⟩ := cr_w C
  have hst := C.2.2.2.2.2.2.2.2.2.2.1
  have ef : h (0 + 99) 15 = 0 + 79 := rf_at hG.1 (a := 99) (k := 15) (b := 79) (by decide +kernel)
  refine s_aload_n dX8_reckoning_0 rfl ?_
  refine s_geti dX8_reckoning_1 fl_X8_52 kl_6 (by decide) rfl io_0 (z := 7) rfl ?_
  refine s_if_eq (tgt := 23) dX8_reckoning_4 (by decide) (by first | exact hG.2 _ _ | exact b01_in _ | assumption | exact ⟨by omega, by omega⟩) (fun c1 => ?_) (fun c1 => ?_)
  · refine s_aload_n dX8_reckoning_23 rfl ?_
    refine s_getr dX8_reckoning_24 fl_X8_48 kl_6 (by decide) rfl io_0 (z := 6) rfl (rf_6_6 hG.1 io_0) (rk_6_6 io_0).1 ?_
    first
      | (refine s_areturn dX8_reckoning_27 rfl (Or.inl ⟨_, rfl⟩) (k h hG C (by omega) (FC.rf h)))
      | (refine s_areturn dX8_reckoning_27 rfl (Or.inl ⟨_, rfl⟩) (k _ hG (cr_fr C hG (fun x y hx hn => by rw [hs_ne _ (by omega)]; exact fr1 x y (by omega)) ⟨Or.inl (hs_eq _ _ _ _), fun _ => ⟨?_, ?_⟩⟩) (hs_eq _ _ _ _) (fun x y hx => by rw [hs_ne _ (by omega)]; exact fr1 x y (by omega)))
         · rw [hs_ne _ (by omega), hs_ne _ (by omega), fr1 0 3 (by omega), hw]
           exact w1
         · exact RD_to rd1 I (fun x y a b => hs_ne _ (by omega)))
  · refine s_aload_n dX8_reckoning_7 rfl ?_
    refine s_getr dX8_reckoning_8 fl_X8_48 kl_6 (by decide) rfl io_0 (z := 6) rfl (rf_6_6 hG.1 io_0) (rk_6_6 io_0).1 ?_
    refine s_aload_n dX8_reckoning_11 rfl ?_
    refine s_getr dX8_reckoning_12 fl_X8_25 kl_6 (by decide) rfl io_0 (z := 3) rfl (by first | exact hw | (simp (disch := omega) only [hs_same, hs_ne, fl_in, fl_ne, cp_inn, cp_nee]; exact hw)) (W).1 ?_
    refine s_callV (d' := d - 1) (bc' := 0) (bs' := 0) (as := [_]) dX8_reckoning_15 vf_X8_356 (dd_ (by omega) (by decide)) ⟨by omega, by omega⟩ rfl rfl (Nat.le_of_ble_eq_true rfl) kl_4 rfl (rk_6_6 io_0) ?_
    refine c_X5_reckon (by omega) (rk_6_6 io_0) W (rk_6_4 io_0) (by omega) ef P I hG (fun h1 hG1 fr1 w1 rd1 => ?_)
    refine s_aload_n dX8_reckoning_18 rfl ?_
    refine s_iconst dX8_reckoning_19 ?_
    refine s_putzG 7 dX8_reckoning_20 fl_X8_52 kl_6 (by decide) rfl rfl io_0 (z := 7) rfl (by decide +kernel) hG1 (by first | exact Or.inl rfl | exact Or.inr rfl | exact b01_or _ | exact ite01 _ | assumption | omega) (fun hG2 => ?_)
    refine s_aload_n dX8_reckoning_23 rfl ?_
    refine s_getr dX8_reckoning_24 fl_X8_48 kl_6 (by decide) rfl io_0 (z := 6) rfl (rf_6_6 hG2.1 io_0) (rk_6_6 io_0).1 ?_
    first
      | (refine s_areturn dX8_reckoning_27 rfl (Or.inl ⟨_, rfl⟩) (k h hG C (by omega) (FC.rf h)))
      | (refine s_areturn dX8_reckoning_27 rfl (Or.inl ⟨_, rfl⟩) (k _ hG2 (cr_fr C hG2 (fun x y hx hn => by rw [hs_ne _ (by omega)]; exact fr1 x y (by omega)) ⟨Or.inl (hs_eq _ _ _ _), fun _ => ⟨?_, ?_⟩⟩) (hs_eq _ _ _ _) (fun x y hx => by rw [hs_ne _ (by omega)]; exact fr1 x y (by omega)))
         · rw [hs_ne _ (by omega), hs_ne _ (by omega), fr1 0 3 (by omega), hw]
           exact w1
         · exact RD_to rd1 I (fun x y a b => hs_ne _ (by omega)))
end X8A
