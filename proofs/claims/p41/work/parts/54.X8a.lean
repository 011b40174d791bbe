/-! WillHouse: what a call needs -/
section X8A
variable {d bc bs : Nat} {Q : PQ} {h z : PH}
set_option maxRecDepth 100000 in
set_option maxHeartbeats 4000000 in
theorem c_X8_checkPerson {t : Int} (hd : 6 ≤ d) (hbc : 1 ≤ bc) (hbs : 6 ≤ bs) (C : CR_ h z) (ht : inI t) (k : 0 ≤ t → t < z 0 1 → Q.1 none nN h) (kx : ¬ (0 ≤ t ∧ t < z 0 1) → Q.2 IOB nN h) : Cl_ yX8_checkPerson MX8_checkPerson d bc bs [(2, 0), (0, t)] nN h Q := by
  refine s_enter pn_X8 rfl (Nat.le_of_ble_eq_true rfl) (L := [(2, _), (0, _)]) rfl ?_
  have hG := cr_g C
  have I := cr_i C
  obtain ⟨w, hw, W, hwf, P, CN⟩ := cr_w C
  have en := P.1.2.1
  refine s_iload_n dX8_checkPerson_0 rfl ?_
  refine s_if_lt (tgt := 18) dX8_checkPerson_1 (by decide) (by first | exact hG.2 _ _ | exact b01_in _ | assumption | exact ⟨by omega, by omega⟩) (fun c1 => ?_) (fun c1 => ?_)
  · refine s_throwW nh_0 dX8_checkPerson_18 dX8_checkPerson_21 dX8_checkPerson_22 dX8_checkPerson_25 dX8_checkPerson_28 ts_X8_399_404_403 bf_IOB (by omega) (by omega) (by omega) (Nat.le_of_ble_eq_true rfl) ?_
    exact kx (by omega)
  · refine s_iload_n dX8_checkPerson_4 rfl ?_
    refine s_aload_n dX8_checkPerson_5 rfl ?_
    refine s_getr dX8_checkPerson_6 fl_X8_25 kl_6 (by decide) rfl io_0 (z := 3) rfl (by first | exact hw | (simp (disch := omega) only [hs_same, hs_ne, fl_in, fl_ne, cp_inn, cp_nee]; exact hw)) (W).1 ?_
    refine s_getr dX8_checkPerson_9 fl_X8_105 kl_5 (by decide) rfl W (z := 3) rfl (rf_5_3 hG.1 W) (rk_5_3 W).1 ?_
    refine s_geti dX8_checkPerson_12 fl_X8_339 kl_2 (by decide) rfl (rk_5_3 W) (z := 1) rfl ?_
    refine s_icmp_lt (tgt := 29) dX8_checkPerson_15 (by decide) (by first | exact hG.2 _ _ | exact b01_in _ | assumption | exact ⟨by omega, by omega⟩) (by first | exact hG.2 _ _ | exact b01_in _ | assumption | exact ⟨by omega, by omega⟩) (fun c2 => ?_) (fun c2 => ?_)
    · exact s_return dX8_checkPerson_29 rfl (k (by omega) (by omega))
    · refine s_throwW nh_0 dX8_checkPerson_18 dX8_checkPerson_21 dX8_checkPerson_22 dX8_checkPerson_25 dX8_checkPerson_28 ts_X8_399_404_403 bf_IOB (by omega) (by omega) (by omega) (Nat.le_of_ble_eq_true rfl) ?_
      exact kx (by omega)
set_option maxRecDepth 100000 in
set_option maxHeartbeats 4000000 in
theorem c_X8_checkClass {t m : Int} (hd : 6 ≤ d) (hbc : 1 ≤ bc) (hbs : 6 ≤ bs) (hG : G h) (ht : inI t) (hm : inI m) (k : 0 ≤ t → t ≤ m → Q.1 none nN h) (kx : ¬ (0 ≤ t ∧ t ≤ m) → Q.2 IAE nN h) : Cl_ yX8_checkClass MX8_checkClass d bc bs [(2, 0), (0, t), (0, m)] nN h Q := by
  refine s_enter pn_X8 rfl (Nat.le_of_ble_eq_true rfl) (L := [(2, _), (0, _), (0, _)]) rfl ?_
  refine s_iload_n dX8_checkClass_0 rfl ?_
  refine s_if_lt (tgt := 9) dX8_checkClass_1 (by decide) (by first | exact hG.2 _ _ | exact b01_in _ | assumption | exact ⟨by omega, by omega⟩) (fun c1 => ?_) (fun c1 => ?_)
  · refine s_throwW nh_0 dX8_checkClass_9 dX8_checkClass_12 dX8_checkClass_13 dX8_checkClass_16 dX8_checkClass_19 ts_X8_207_408_211 bf_IAE (by omega) (by omega) (by omega) (Nat.le_of_ble_eq_true rfl) ?_
    exact kx (by omega)
  · refine s_iload_n dX8_checkClass_4 rfl ?_
    refine s_iload_n dX8_checkClass_5 rfl ?_
    refine s_icmp_le (tgt := 20) dX8_checkClass_6 (by decide) (by first | exact hG.2 _ _ | exact b01_in _ | assumption | exact ⟨by omega, by omega⟩) (by first | exact hG.2 _ _ | exact b01_in _ | assumption | exact ⟨by omega, by omega⟩) (fun c2 => ?_) (fun c2 => ?_)
    · exact s_return dX8_checkClass_20 rfl (k (by omega) (by omega))
    · refine s_throwW nh_0 dX8_checkClass_9 dX8_checkClass_12 dX8_checkClass_13 dX8_checkClass_16 dX8_checkClass_19 ts_X8_207_408_211 bf_IAE (by omega) (by omega) (by omega) (Nat.le_of_ble_eq_true rfl) ?_
      exact kx (by omega)
set_option maxRecDepth 100000 in
set_option maxHeartbeats 4000000 in
theorem c_X8_reckoning  (hd : 7 ≤ d) (C : CR_ h z) (k : ∀ h1 : PH, G h1 → CR_ h1 z → h1 0 7 = 0 → FC h h1 → Q.1 (some (2, 0 + 99)) nN h1) : Cl_ yX8_reckoning MX8_reckoning d bc bs [(2, 0)] nN h Q := by
  refine s_enter pn_X8 rfl (Nat.le_of_ble_eq_true rfl) (L := [(2, _)]) rfl ?_
  have hG := cr_g C
  have I := cr_i C
  obtain ⟨w, hw, W, hwf, P, CN⟩ := cr_w C
  have hst := C.2.2.2.2.2.2.2.2.2.2.1
  have ef : h (0 + 99) 15 = 0 + 79 := rf_at hG.1 (a := 99) (k := 15) (b := 79) (by decide +kernel)
  refine s_aload_n dX8_reckoning_0 rfl ?_
  refine s_geti dX8_reckoning_1 fl_X8_52 kl_6 (by decide) rfl io_0 (z := 7) rfl ?_
  refine s_if_eq (tgt := 23) dX8_reckoning_4 (by decide) (by first | exact hG.2 _ _ | exact b01_in _ | assumption | exact ⟨by omega, by omega⟩) (fun c1 => ?_) (fun c1 => ?_)
  · refine s_aload_n dX8_reckoning_23 rfl ?_
    refine s_getr dX8_reckoning_24 fl_X8_48 kl_6 (by decide) rfl io_0 (z := 6) rfl (rf_6_6 hG.1 io_0) (rk_6_6 io_0).1 ?_
    first
      | (refine s_areturn dX8_reckoning_27 rfl (Or.inl ⟨_, rfl⟩) (k h hG C (by omega) (FC.rf h)))
      | (refine s_areturn dX8_reckoning_27 rfl (Or.inl ⟨_, rfl⟩) (k _ hG (cr_fr C hG (fun x y hx hn => by rw [hs_ne _ (by omega)]; exact fr1 x y (by omega)) ⟨Or.inl (hs_eq _ _ _ _), fun _ => ⟨?_, ?_⟩⟩) (hs_eq _ _ _ _) (fun x y hx => by rw [hs_ne _ (by omega)]; exact fr1 x y (by omega)))
         · rw [hs_ne _ (by omega), hs_ne _ (by omega), fr1 0 3 (by omega), hw]
           exact w1
         · exact RD_to rd1 I (fun x y a b => hs_ne _ (by omega)))
  · refine s_aload_n dX8_reckoning_7 rfl ?_
    refine s_getr dX8_reckoning_8 fl_X8_48 kl_6 (by decide) rfl io_0 (z := 6) rfl (rf_6_6 hG.1 io_0) (rk_6_6 io_0).1 ?_
    refine s_aload_n dX8_reckoning_11 rfl ?_
    refine s_getr dX8_reckoning_12 fl_X8_25 kl_6 (by decide) rfl io_0 (z := 3) rfl (by first | exact hw | (simp (disch := omega) only [hs_same, hs_ne, fl_in, fl_ne, cp_inn, cp_nee]; exact hw)) (W).1 ?_
    refine s_callV (d' := d - 1) (bc' := 0) (bs' := 0) (as := [_]) dX8_reckoning_15 vf_X8_356 (dd_ (by omega) (by decide)) ⟨by omega, by omega⟩ rfl rfl (Nat.le_of_ble_eq_true rfl) kl_4 rfl (rk_6_6 io_0) ?_
    refine c_X5_reckon (by omega) (rk_6_6 io_0) W (rk_6_4 io_0) (by omega) ef P I hG (fun h1 hG1 fr1 w1 rd1 => ?_)
    refine s_aload_n dX8_reckoning_18 rfl ?_
    refine s_iconst dX8_reckoning_19 ?_
    refine s_putzG 7 dX8_reckoning_20 fl_X8_52 kl_6 (by decide) rfl rfl io_0 (z := 7) rfl (by decide +kernel) hG1 (by first | exact Or.inl rfl | exact Or.inr rfl | exact b01_or _ | exact ite01 _ | assumption | omega) (fun hG2 => ?_)
    refine s_aload_n dX8_reckoning_23 rfl ?_
    refine s_getr dX8_reckoning_24 fl_X8_48 kl_6 (by decide) rfl io_0 (z := 6) rfl (rf_6_6 hG2.1 io_0) (rk_6_6 io_0).1 ?_
    first
      | (refine s_areturn dX8_reckoning_27 rfl (Or.inl ⟨_, rfl⟩) (k h hG C (by omega) (FC.rf h)))
      | (refine s_areturn dX8_reckoning_27 rfl (Or.inl ⟨_, rfl⟩) (k _ hG2 (cr_fr C hG2 (fun x y hx hn => by rw [hs_ne _ (by omega)]; exact fr1 x y (by omega)) ⟨Or.inl (hs_eq _ _ _ _), fun _ => ⟨?_, ?_⟩⟩) (hs_eq _ _ _ _) (fun x y hx => by rw [hs_ne _ (by omega)]; exact fr1 x y (by omega)))
         · rw [hs_ne _ (by omega), hs_ne _ (by omega), fr1 0 3 (by omega), hw]
           exact w1
         · exact RD_to rd1 I (fun x y a b => hs_ne _ (by omega)))
end X8A
