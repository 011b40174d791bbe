/-! WillHouse$Acts: the facts as they were ahead of the latest acts: a ring of 16 rows, which lie two behind the object; next is its place 1, count its place 2 -/
section X1
variable {d bc bs : Nat} {Q : PQ} {h : PH} {a : Int}
set_option maxRecDepth 100000 in
set_option maxHeartbeats 4000000 in
theorem c_X1_forgetAll  (A : isO nN a 0) (hG : G h) (k : Q.1 none nN (hs_ h a 2 0)) : Cl_ yX1_forgetAll MX1_forgetAll d bc bs [(2, a)] nN h Q := by
  refine s_enter pn_X1 rfl (Nat.le_of_ble_eq_true rfl) (L := [(2, _)]) rfl ?_
  refine s_aload_n dX1_forgetAll_0 rfl ?_
  refine s_iconst dX1_forgetAll_1 ?_
  refine s_putiG 2 dX1_forgetAll_2 fl_X1_18 kl_0 (by decide) rfl rfl A (z := 2) rfl (by decide +kernel) hG (by first | exact hG.2 _ _ | exact b01_in _ | assumption | exact ⟨by omega, by omega⟩) (fun hG1 => ?_)
  exact s_return dX1_forgetAll_5 rfl k
set_option maxRecDepth 100000 in
set_option maxHeartbeats 4000000 in
theorem c_X1_keep {b : Int} (hd : 3 ≤ d) (A : isO nN a 0) (B : isO nN b 1) (hG : G h) (n0 : 0 ≤ h a 1) (n1 : h a 1 < 16) (m0 : 0 ≤ h a 2) (m1 : h a 2 ≤ 16) (k : Q.1 none nN (hs_ (hs_ (cp_ h (b + 1) 0 (a + 1 + 1 + h a 1) 0 61) a 1 (if h a 1 = 15 then 0 else h a 1 + 1)) a 2 (min 16 (h a 2 + 1)))) : Cl_ yX1_keep MX1_keep d bc bs [(2, a), (2, b)] nN h Q := by
  refine s_enter pn_X1 rfl (Nat.le_of_ble_eq_true rfl) (L := [(2, _), (2, _)]) rfl ?_
  refine s_aload_n dX1_keep_0 rfl ?_
  refine s_getr dX1_keep_1 fl_X1_22 kl_1 (by decide) rfl B (z := 0) rfl (rf_1_0 hG.1 B) (rk_1_0 B).1 ?_
  refine s_iconst dX1_keep_4 ?_
  refine s_aload_n dX1_keep_5 rfl ?_
  refine s_getr dX1_keep_6 fl_X1_13 kl_0 (by decide) rfl A (z := 0) rfl (rf_0_0 hG.1 A) (rk_0_0 A).1 ?_
  refine s_aload_n dX1_keep_9 rfl ?_
  refine s_geti dX1_keep_10 fl_X1_26 kl_0 (by decide) rfl A (z := 1) rfl ?_
  refine s_aaload4 dX1_keep_13 (rk_0_0 A) (by omega) (by omega) (rw_0_0 hG.1 A (by omega) (by omega)) (rx_0_0 A (by omega) (by omega)).1 ?_
  refine s_iconst dX1_keep_14 ?_
  refine s_bipush dX1_keep_15 (by decide) ?_
  refine s_copyi dX1_keep_17 jc_X1_29 (rk_1_0 B) (rx_0_0 A (by omega) (by omega)) (by omega) (by omega) (by omega) (by omega) (by omega) (by omega) (Nat.le_of_ble_eq_true rfl) hG (fun hG1 => ?_)
  refine s_aload_n dX1_keep_20 rfl ?_
  refine s_aload_n dX1_keep_21 rfl ?_
  refine s_geti dX1_keep_22 fl_X1_26 kl_0 (by decide) rfl A (z := 1) rfl ?_
  try simp (disch := omega) only [hs_same, hs_ne, fl_in, fl_ne, cp_inn, cp_nee]
  refine s_bipush dX1_keep_25 (by decide) ?_
  refine s_icmp_ne (tgt := 34) dX1_keep_27 (by decide) (by first | exact hG1.2 _ _ | exact hG.2 _ _ | exact b01_in _ | assumption | exact ⟨by omega, by omega⟩) (by first | exact hG1.2 _ _ | exact hG.2 _ _ | exact b01_in _ | assumption | exact ⟨by omega, by omega⟩) (fun c1 => ?_) (fun c1 => ?_)
  · refine s_aload_n dX1_keep_34 rfl ?_
    refine s_geti dX1_keep_35 fl_X1_26 kl_0 (by decide) rfl A (z := 1) rfl ?_
    try simp (disch := omega) only [hs_same, hs_ne, fl_in, fl_ne, cp_inn, cp_nee]
    refine s_iconst dX1_keep_38 ?_
    refine s_iadd dX1_keep_39 ?_
    refine s_putiG 1 dX1_keep_40 fl_X1_26 kl_0 (by decide) rfl rfl A (z := 1) rfl (by decide +kernel) hG1 (by first | exact hG1.2 _ _ | exact hG.2 _ _ | exact b01_in _ | assumption | exact ⟨by omega, by omega⟩) (fun hG2 => ?_)
    refine s_aload_n dX1_keep_43 rfl ?_
    refine s_bipush dX1_keep_44 (by decide) ?_
    refine s_aload_n dX1_keep_46 rfl ?_
    refine s_geti dX1_keep_47 fl_X1_18 kl_0 (by decide) rfl A (z := 2) rfl ?_
    try simp (disch := omega) only [hs_same, hs_ne, fl_in, fl_ne, cp_inn, cp_nee]
    refine s_iconst dX1_keep_50 ?_
    refine s_iadd dX1_keep_51 ?_
    refine s_mmin dX1_keep_52 jm_X1_35 (by first | exact hG2.2 _ _ | exact hG.2 _ _ | exact b01_in _ | assumption | exact ⟨by omega, by omega⟩) (by first | exact hG2.2 _ _ | exact hG.2 _ _ | exact b01_in _ | assumption | exact ⟨by omega, by omega⟩) (by omega) (Nat.le_of_ble_eq_true rfl) ?_
    refine s_putiG 2 dX1_keep_55 fl_X1_18 kl_0 (by decide) rfl rfl A (z := 2) rfl (by decide +kernel) hG2 (by first | exact hG2.2 _ _ | exact hG.2 _ _ | exact b01_in _ | assumption | exact ⟨by omega, by omega⟩) (fun hG3 => ?_)
    exact s_return dX1_keep_58 rfl (by simpa [c1] using k)
  · refine s_iconst dX1_keep_30 ?_
    refine s_goto (tgt := 40) dX1_keep_31 (by decide) ?_
    refine s_putiG 1 dX1_keep_40 fl_X1_26 kl_0 (by decide) rfl rfl A (z := 1) rfl (by decide +kernel) hG1 (by first | exact hG1.2 _ _ | exact hG.2 _ _ | exact b01_in _ | assumption | exact ⟨by omega, by omega⟩) (fun hG4 => ?_)
    refine s_aload_n dX1_keep_43 rfl ?_
    refine s_bipush dX1_keep_44 (by decide) ?_
    refine s_aload_n dX1_keep_46 rfl ?_
    refine s_geti dX1_keep_47 fl_X1_18 kl_0 (by decide) rfl A (z := 2) rfl ?_
    try simp (disch := omega) only [hs_same, hs_ne, fl_in, fl_ne, cp_inn, cp_nee]
    refine s_iconst dX1_keep_50 ?_
    refine s_iadd dX1_keep_51 ?_
    refine s_mmin dX1_keep_52 jm_X1_35 (by first | exact hG4.2 _ _ | exact hG.2 _ _ | exact b01_in _ | assumption | exact ⟨by omega, by omega⟩) (by first | exact hG4.2 _ _ | exact hG.2 _ _ | exact b01_in _ | assumption | exact ⟨by omega, by omega⟩) (by omega) (Nat.le_of_ble_eq_true rfl) ?_
    refine s_putiG 2 dX1_keep_55 fl_X1_18 kl_0 (by decide) rfl rfl A (z := 2) rfl (by decide +kernel) hG4 (by first | exact hG4.2 _ _ | exact hG.2 _ _ | exact b01_in _ | assumption | exact ⟨by omega, by omega⟩) (fun hG5 => ?_)
    exact s_return dX1_keep_58 rfl (by simpa [c1] using k)
set_option maxRecDepth 100000 in
set_option maxHeartbeats 4000000 in
theorem c_X1_takeBack {b : Int} (hd : 3 ≤ d) (A : isO nN a 0) (B : isO nN b 1) (hG : G h) (n0 : 0 ≤ h a 1) (n1 : h a 1 < 16) (m0 : 0 ≤ h a 2) (m1 : h a 2 ≤ 16) (k : Q.1 none nN (cp_ (hs_ (hs_ h a 1 (if h a 1 = 0 then 15 else h a 1 - 1)) a 2 (max 0 (h a 2 - 1))) (a + 1 + 1 + (if h a 1 = 0 then 15 else h a 1 - 1)) 0 (b + 1) 0 61)) : Cl_ yX1_takeBack MX1_takeBack d bc bs [(2, a), (2, b)] nN h Q := by
  refine s_enter pn_X1 rfl (Nat.le_of_ble_eq_true rfl) (L := [(2, _), (2, _)]) rfl ?_
  refine s_aload_n dX1_takeBack_0 rfl ?_
  refine s_aload_n dX1_takeBack_1 rfl ?_
  refine s_geti dX1_takeBack_2 fl_X1_26 kl_0 (by decide) rfl A (z := 1) rfl ?_
  refine s_if_ne (tgt := 13) dX1_takeBack_5 (by decide) (by first | exact hG.2 _ _ | exact b01_in _ | assumption | exact ⟨by omega, by omega⟩) (fun c1 => ?_) (fun c1 => ?_)
  · refine s_aload_n dX1_takeBack_13 rfl ?_
    refine s_geti dX1_takeBack_14 fl_X1_26 kl_0 (by decide) rfl A (z := 1) rfl ?_
    refine s_iconst dX1_takeBack_17 ?_
    refine s_isub dX1_takeBack_18 ?_
    refine s_putiG 1 dX1_takeBack_19 fl_X1_26 kl_0 (by decide) rfl rfl A (z := 1) rfl (by decide +kernel) hG (by first | exact hG.2 _ _ | exact b01_in _ | assumption | exact ⟨by omega, by omega⟩) (fun hG1 => ?_)
    refine s_aload_n dX1_takeBack_22 rfl ?_
    refine s_iconst dX1_takeBack_23 ?_
    refine s_aload_n dX1_takeBack_24 rfl ?_
    refine s_geti dX1_takeBack_25 fl_X1_18 kl_0 (by decide) rfl A (z := 2) rfl ?_
    try simp (disch := omega) only [hs_same, hs_ne, fl_in, fl_ne, cp_inn, cp_nee]
    refine s_iconst dX1_takeBack_28 ?_
    refine s_isub dX1_takeBack_29 ?_
    refine s_mmax dX1_takeBack_30 jm_X1_41 (by first | exact hG1.2 _ _ | exact hG.2 _ _ | exact b01_in _ | assumption | exact ⟨by omega, by omega⟩) (by first | exact hG1.2 _ _ | exact hG.2 _ _ | exact b01_in _ | assumption | exact ⟨by omega, by omega⟩) (by omega) (Nat.le_of_ble_eq_true rfl) ?_
    refine s_putiG 2 dX1_takeBack_33 fl_X1_18 kl_0 (by decide) rfl rfl A (z := 2) rfl (by decide +kernel) hG1 (by first | exact hG1.2 _ _ | exact hG.2 _ _ | exact b01_in _ | assumption | exact ⟨by omega, by omega⟩) (fun hG2 => ?_)
    refine s_aload_n dX1_takeBack_36 rfl ?_
    refine s_getr dX1_takeBack_37 fl_X1_13 kl_0 (by decide) rfl A (z := 0) rfl (rf_0_0 hG2.1 A) (rk_0_0 A).1 ?_
    refine s_aload_n dX1_takeBack_40 rfl ?_
    refine s_geti dX1_takeBack_41 fl_X1_26 kl_0 (by decide) rfl A (z := 1) rfl ?_
    try simp (disch := omega) only [hs_same, hs_ne, fl_in, fl_ne, cp_inn, cp_nee]
    refine s_aaload4 dX1_takeBack_44 (rk_0_0 A) (by omega) (by omega) (rw_0_0 hG2.1 A (by omega) (by omega)) (rx_0_0 A (by omega) (by omega)).1 ?_
    refine s_iconst dX1_takeBack_45 ?_
    refine s_aload_n dX1_takeBack_46 rfl ?_
    refine s_getr dX1_takeBack_47 fl_X1_22 kl_1 (by decide) rfl B (z := 0) rfl (rf_1_0 hG2.1 B) (rk_1_0 B).1 ?_
    refine s_iconst dX1_takeBack_50 ?_
    refine s_bipush dX1_takeBack_51 (by decide) ?_
    refine s_copyi dX1_takeBack_53 jc_X1_29 (rx_0_0 A (by omega) (by omega)) (rk_1_0 B) (by omega) (by omega) (by omega) (by omega) (by omega) (by omega) (Nat.le_of_ble_eq_true rfl) hG2 (fun hG3 => ?_)
    exact s_return dX1_takeBack_56 rfl (by simpa [c1] using k)
  · refine s_bipush dX1_takeBack_8 (by decide) ?_
    refine s_goto (tgt := 19) dX1_takeBack_10 (by decide) ?_
    refine s_putiG 1 dX1_takeBack_19 fl_X1_26 kl_0 (by decide) rfl rfl A (z := 1) rfl (by decide +kernel) hG (by first | exact hG.2 _ _ | exact b01_in _ | assumption | exact ⟨by omega, by omega⟩) (fun hG4 => ?_)
    refine s_aload_n dX1_takeBack_22 rfl ?_
    refine s_iconst dX1_takeBack_23 ?_
    refine s_aload_n dX1_takeBack_24 rfl ?_
    refine s_geti dX1_takeBack_25 fl_X1_18 kl_0 (by decide) rfl A (z := 2) rfl ?_
    try simp (disch := omega) only [hs_same, hs_ne, fl_in, fl_ne, cp_inn, cp_nee]
    refine s_iconst dX1_takeBack_28 ?_
    refine s_isub dX1_takeBack_29 ?_
    refine s_mmax dX1_takeBack_30 jm_X1_41 (by first | exact hG4.2 _ _ | exact hG.2 _ _ | exact b01_in _ | assumption | exact ⟨by omega, by omega⟩) (by first | exact hG4.2 _ _ | exact hG.2 _ _ | exact b01_in _ | assumption | exact ⟨by omega, by omega⟩) (by omega) (Nat.le_of_ble_eq_true rfl) ?_
    refine s_putiG 2 dX1_takeBack_33 fl_X1_18 kl_0 (by decide) rfl rfl A (z := 2) rfl (by decide +kernel) hG4 (by first | exact hG4.2 _ _ | exact hG.2 _ _ | exact b01_in _ | assumption | exact ⟨by omega, by omega⟩) (fun hG5 => ?_)
    refine s_aload_n dX1_takeBack_36 rfl ?_
    refine s_getr dX1_takeBack_37 fl_X1_13 kl_0 (by decide) rfl A (z := 0) rfl (rf_0_0 hG5.1 A) (rk_0_0 A).1 ?_
    refine s_aload_n dX1_takeBack_40 rfl ?_
    refine s_geti dX1_takeBack_41 fl_X1_26 kl_0 (by decide) rfl A (z := 1) rfl ?_
    try simp (disch := omega) only [hs_same, hs_ne, fl_in, fl_ne, cp_inn, cp_nee]
    refine s_aaload4 dX1_takeBack_44 (rk_0_0 A) (by omega) (by omega) (rw_0_0 hG5.1 A (by omega) (by omega)) (rx_0_0 A (by omega) (by omega)).1 ?_
    refine s_iconst dX1_takeBack_45 ?_
    refine s_aload_n dX1_takeBack_46 rfl ?_
    refine s_getr dX1_takeBack_47 fl_X1_22 kl_1 (by decide) rfl B (z := 0) rfl (rf_1_0 hG5.1 B) (rk_1_0 B).1 ?_
    refine s_iconst dX1_takeBack_50 ?_
    refine s_bipush dX1_takeBack_51 (by decide) ?_
    refine s_copyi dX1_takeBack_53 jc_X1_29 (rx_0_0 A (by omega) (by omega)) (rk_1_0 B) (by omega) (by omega) (by omega) (by omega) (by omega) (by omega) (Nat.le_of_ble_eq_true rfl) hG5 (fun hG6 => ?_)
    exact s_return dX1_takeBack_56 rfl (by simpa [c1] using k)
end X1
