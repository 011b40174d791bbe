/-! WillHouse: what only tells, more -/
section X8C
variable {d bc bs : Nat} {Q : PQ} {h z : PH}
set_option maxRecDepth 100000 in
set_option maxHeartbeats 4000000 in
theorem c_X8_estate {v : Int} (hd : 10 ≤ d) (hbc : 8 ≤ bc) (hbs : 48 ≤ bs) (C : CR_ h z) (hv : inI v) (k : 0 ≤ v → v ≤ 7 → OK_ Q h z (zestate z v)) (k1 : ¬ (0 ≤ v ∧ v ≤ 7) → TH_ Q h z vy_X) : Cl_ yX8_estate MX8_estate d bc bs [(2, 0), (0, v)] nN h Q := by
  refine s_enter pn_X8 rfl (Nat.le_of_ble_eq_true rfl) (L := [(2, _), (0, _)]) rfl ?_
  have hG := cr_g C
  have I := cr_i C
  obtain ⟨w, hw, W, hwf, P, CN⟩ := cr_w C
  have fc := FC.rf h
  have hT := I.2.1
  have hP := I.2.2.1
  have hN := I.2.2.2.1
  have be := zes_bd I
  have ba := zav_bd I
  have br := zrs_bd I
  have bd := I.1.2.2.2.1
  refine s_iload_n dX8_estate_0 rfl ?_
  rcases (by omega : v = 0 ∨ v = 1 ∨ v = 2 ∨ v = 3 ∨ v = 4 ∨ v = 5 ∨ v = 6 ∨ v = 7 ∨ (v < 0 ∨ 7 < v)) with rfl | rfl | rfl | rfl | rfl | rfl | rfl | rfl | c1
  · refine s_tabIn (tgt := 48) dX8_estate_1 (by first | exact hG.2 _ _ | exact b01_in _ | assumption | exact ⟨by omega, by omega⟩) (by decide) (by decide) rfl (by decide) ?_
    refine s_aload_n dX8_estate_48 rfl ?_
    refine s_callV (d' := d - 1) (bc' := 0) (bs' := 0) (as := []) dX8_estate_49 vf_X8_159 (dd_ (by omega) (by decide)) ⟨Nat.zero_le _, Nat.zero_le _⟩ rfl rfl (Nat.le_of_ble_eq_true rfl) kl_6 rfl io_0 ?_
    refine c_X8_reckoning (by omega) C (fun hh hG1 C st fc2 => ?_)
    have fc := fc.tr fc2
    obtain ⟨w, hw, W, hwf, P, CN⟩ := cr_w C
    have RD := cr_rd C st
    have hr := cr_rw C st hw
    have eN := P.1.2.2
    refine s_geti dX8_estate_52 fl_X8_260 kl_4 (by decide) rfl (rk_6_6 io_0) (z := 7) rfl ?_
    try simp (disch := omega) only [hs_same, hs_ne, fl_in, fl_ne, cp_inn, cp_nee]
    have k9 := k (by omega) (by omega) _ C fc
    unfold zestate at k9
    simp at k9
    refine s_ireturn dX8_estate_55 rfl ?_
    rw [RD.2.2.2.2.2.2.1]
    exact k9
  · refine s_tabIn (tgt := 56) dX8_estate_1 (by first | exact hG.2 _ _ | exact b01_in _ | assumption | exact ⟨by omega, by omega⟩) (by decide) (by decide) rfl (by decide) ?_
    refine s_aload_n dX8_estate_56 rfl ?_
    refine s_callV (d' := d - 1) (bc' := 0) (bs' := 0) (as := []) dX8_estate_57 vf_X8_159 (dd_ (by omega) (by decide)) ⟨Nat.zero_le _, Nat.zero_le _⟩ rfl rfl (Nat.le_of_ble_eq_true rfl) kl_6 rfl io_0 ?_
    refine c_X8_reckoning (by omega) C (fun hh hG2 C st fc2 => ?_)
    have fc := fc.tr fc2
    obtain ⟨w, hw, W, hwf, P, CN⟩ := cr_w C
    have RD := cr_rd C st
    have hr := cr_rw C st hw
    have eN := P.1.2.2
    refine s_geti dX8_estate_60 fl_X8_263 kl_4 (by decide) rfl (rk_6_6 io_0) (z := 8) rfl ?_
    try simp (disch := omega) only [hs_same, hs_ne, fl_in, fl_ne, cp_inn, cp_nee]
    have k9 := k (by omega) (by omega) _ C fc
    unfold zestate at k9
    simp at k9
    refine s_ireturn dX8_estate_63 rfl ?_
    rw [RD.2.2.2.2.2.2.2.1]
    exact k9
  · refine s_tabIn (tgt := 64) dX8_estate_1 (by first | exact hG.2 _ _ | exact b01_in _ | assumption | exact ⟨by omega, by omega⟩) (by decide) (by decide) rfl (by decide) ?_
    refine s_iconst dX8_estate_64 ?_
    refine s_aload_n dX8_estate_65 rfl ?_
    refine s_getr dX8_estate_66 fl_X8_32 kl_6 (by decide) rfl io_0 (z := 4) rfl (rf_6_4 hG.1 io_0) (rk_6_4 io_0).1 ?_
    refine s_iconst dX8_estate_69 ?_
    refine s_callV (d' := d - 1) (bc' := 0) (bs' := 0) (as := [_]) dX8_estate_70 vf_X8_204 (dd_ (by omega) (by decide)) ⟨Nat.zero_le _, Nat.zero_le _⟩ rfl rfl (Nat.le_of_ble_eq_true rfl) kl_1 rfl (rk_6_4 io_0) ?_
    refine c_X2_told (rk_6_4 io_0) hG (by omega) (by omega) ?_
    rw [P.2.1 _ (by omega) (by omega)]
    rw [show (56 : Int) + 1 = 57 by rfl]
    refine s_aload_n dX8_estate_73 rfl ?_
    refine s_callV (d' := d - 1) (bc' := 0) (bs' := 0) (as := []) dX8_estate_74 vf_X8_159 (dd_ (by omega) (by decide)) ⟨Nat.zero_le _, Nat.zero_le _⟩ rfl rfl (Nat.le_of_ble_eq_true rfl) kl_6 rfl io_0 ?_
    refine c_X8_reckoning (by omega) C (fun hh hG3 C st fc2 => ?_)
    have fc := fc.tr fc2
    obtain ⟨w, hw, W, hwf, P, CN⟩ := cr_w C
    have RD := cr_rd C st
    have hr := cr_rw C st hw
    have eN := P.1.2.2
    refine s_geti dX8_estate_77 fl_X8_260 kl_4 (by decide) rfl (rk_6_6 io_0) (z := 7) rfl ?_
    try simp (disch := omega) only [hs_same, hs_ne, fl_in, fl_ne, cp_inn, cp_nee]
    rw [RD.2.2.2.2.2.2.1]
    refine s_isub dX8_estate_80 ?_
    refine s_mmax dX8_estate_81 jm_X8_266 (by first | exact hG3.2 _ _ | exact hG.2 _ _ | exact b01_in _ | assumption | exact ⟨by omega, by omega⟩) (by first | exact hG3.2 _ _ | exact hG.2 _ _ | exact b01_in _ | assumption | exact ⟨by omega, by omega⟩) (by omega) (Nat.le_of_ble_eq_true rfl) ?_
    have k9 := k (by omega) (by omega) _ C fc
    unfold zestate at k9
    simp at k9
    refine s_ireturn dX8_estate_84 rfl ?_
    exact k9
  · refine s_tabIn (tgt := 85) dX8_estate_1 (by first | exact hG.2 _ _ | exact b01_in _ | assumption | exact ⟨by omega, by omega⟩) (by decide) (by decide) rfl (by decide) ?_
    refine s_aload_n dX8_estate_85 rfl ?_
    refine s_callV (d' := d - 1) (bc' := 0) (bs' := 0) (as := []) dX8_estate_86 vf_X8_159 (dd_ (by omega) (by decide)) ⟨Nat.zero_le _, Nat.zero_le _⟩ rfl rfl (Nat.le_of_ble_eq_true rfl) kl_6 rfl io_0 ?_
    refine c_X8_reckoning (by omega) C (fun hh hG4 C st fc2 => ?_)
    have fc := fc.tr fc2
    obtain ⟨w, hw, W, hwf, P, CN⟩ := cr_w C
    have RD := cr_rd C st
    have hr := cr_rw C st hw
    have eN := P.1.2.2
    refine s_geti dX8_estate_89 fl_X8_271 kl_4 (by decide) rfl (rk_6_6 io_0) (z := 9) rfl ?_
    try simp (disch := omega) only [hs_same, hs_ne, fl_in, fl_ne, cp_inn, cp_nee]
    have k9 := k (by omega) (by omega) _ C fc
    unfold zestate at k9
    simp at k9
    refine s_ireturn dX8_estate_92 rfl ?_
    rw [RD.2.2.2.2.2.2.2.2.1]
    exact k9
  · refine s_tabIn (tgt := 93) dX8_estate_1 (by first | exact hG.2 _ _ | exact b01_in _ | assumption | exact ⟨by omega, by omega⟩) (by decide) (by decide) rfl (by decide) ?_
    refine s_aload_n dX8_estate_93 rfl ?_
    refine s_callV (d' := d - 1) (bc' := 0) (bs' := 0) (as := []) dX8_estate_94 vf_X8_159 (dd_ (by omega) (by decide)) ⟨Nat.zero_le _, Nat.zero_le _⟩ rfl rfl (Nat.le_of_ble_eq_true rfl) kl_6 rfl io_0 ?_
    refine c_X8_reckoning (by omega) C (fun hh hG5 C st fc2 => ?_)
    have fc := fc.tr fc2
    obtain ⟨w, hw, W, hwf, P, CN⟩ := cr_w C
    have RD := cr_rd C st
    have hr := cr_rw C st hw
    have eN := P.1.2.2
    refine s_geti dX8_estate_97 fl_X8_274 kl_4 (by decide) rfl (rk_6_6 io_0) (z := 10) rfl ?_
    try simp (disch := omega) only [hs_same, hs_ne, fl_in, fl_ne, cp_inn, cp_nee]
    have k9 := k (by omega) (by omega) _ C fc
    unfold zestate at k9
    simp at k9
    refine s_ireturn dX8_estate_100 rfl ?_
    rw [RD.2.2.2.2.2.2.2.2.2.1]
    exact k9
  · refine s_tabIn (tgt := 101) dX8_estate_1 (by first | exact hG.2 _ _ | exact b01_in _ | assumption | exact ⟨by omega, by omega⟩) (by decide) (by decide) rfl (by decide) ?_
    refine s_aload_n dX8_estate_101 rfl ?_
    refine s_callV (d' := d - 1) (bc' := 0) (bs' := 0) (as := []) dX8_estate_102 vf_X8_159 (dd_ (by omega) (by decide)) ⟨Nat.zero_le _, Nat.zero_le _⟩ rfl rfl (Nat.le_of_ble_eq_true rfl) kl_6 rfl io_0 ?_
    refine c_X8_reckoning (by omega) C (fun hh hG6 C st fc2 => ?_)
    have fc := fc.tr fc2
    obtain ⟨w, hw, W, hwf, P, CN⟩ := cr_w C
    have RD := cr_rd C st
    have hr := cr_rw C st hw
    have eN := P.1.2.2
    refine s_geti dX8_estate_105 fl_X8_277 kl_4 (by decide) rfl (rk_6_6 io_0) (z := 11) rfl ?_
    try simp (disch := omega) only [hs_same, hs_ne, fl_in, fl_ne, cp_inn, cp_nee]
    have k9 := k (by omega) (by omega) _ C fc
    unfold zestate at k9
    simp at k9
    refine s_ireturn dX8_estate_108 rfl ?_
    rw [RD.2.2.2.2.2.2.2.2.2.2.1]
    exact k9
  · refine s_tabIn (tgt := 109) dX8_estate_1 (by first | exact hG.2 _ _ | exact b01_in _ | assumption | exact ⟨by omega, by omega⟩) (by decide) (by decide) rfl (by decide) ?_
    refine s_aload_n dX8_estate_109 rfl ?_
    refine s_callV (d' := d - 1) (bc' := 0) (bs' := 0) (as := []) dX8_estate_110 vf_X8_159 (dd_ (by omega) (by decide)) ⟨Nat.zero_le _, Nat.zero_le _⟩ rfl rfl (Nat.le_of_ble_eq_true rfl) kl_6 rfl io_0 ?_
    refine c_X8_reckoning (by omega) C (fun hh hG7 C st fc2 => ?_)
    have fc := fc.tr fc2
    obtain ⟨w, hw, W, hwf, P, CN⟩ := cr_w C
    have RD := cr_rd C st
    have hr := cr_rw C st hw
    have eN := P.1.2.2
    refine s_geti dX8_estate_113 fl_X8_263 kl_4 (by decide) rfl (rk_6_6 io_0) (z := 8) rfl ?_
    try simp (disch := omega) only [hs_same, hs_ne, fl_in, fl_ne, cp_inn, cp_nee]
    rw [RD.2.2.2.2.2.2.2.1]
    refine s_aload_n dX8_estate_116 rfl ?_
    refine s_callV (d' := d - 1) (bc' := 0) (bs' := 0) (as := []) dX8_estate_117 vf_X8_159 (dd_ (by omega) (by decide)) ⟨Nat.zero_le _, Nat.zero_le _⟩ rfl rfl (Nat.le_of_ble_eq_true rfl) kl_6 rfl io_0 ?_
    refine c_X8_reckoning (by omega) C (fun hh hG8 C st fc2 => ?_)
    have fc := fc.tr fc2
    obtain ⟨w, hw, W, hwf, P, CN⟩ := cr_w C
    have RD := cr_rd C st
    have hr := cr_rw C st hw
    have eN := P.1.2.2
    refine s_geti dX8_estate_120 fl_X8_271 kl_4 (by decide) rfl (rk_6_6 io_0) (z := 9) rfl ?_
    try simp (disch := omega) only [hs_same, hs_ne, fl_in, fl_ne, cp_inn, cp_nee]
    refine s_isub dX8_estate_123 ?_
    have k9 := k (by omega) (by omega) _ C fc
    unfold zestate at k9
    simp at k9
    refine s_ireturn dX8_estate_124 rfl ?_
    rw [RD.2.2.2.2.2.2.2.2.1]
    exact k9
  · refine s_tabIn (tgt := 125) dX8_estate_1 (by first | exact hG.2 _ _ | exact b01_in _ | assumption | exact ⟨by omega, by omega⟩) (by decide) (by decide) rfl (by decide) ?_
    refine s_aload_n dX8_estate_125 rfl ?_
    refine s_callV (d' := d - 1) (bc' := 0) (bs' := 0) (as := []) dX8_estate_126 vf_X8_159 (dd_ (by omega) (by decide)) ⟨Nat.zero_le _, Nat.zero_le _⟩ rfl rfl (Nat.le_of_ble_eq_true rfl) kl_6 rfl io_0 ?_
    refine c_X8_reckoning (by omega) C (fun hh hG9 C st fc2 => ?_)
    have fc := fc.tr fc2
    obtain ⟨w, hw, W, hwf, P, CN⟩ := cr_w C
    have RD := cr_rd C st
    have hr := cr_rw C st hw
    have eN := P.1.2.2
    refine s_geti dX8_estate_129 fl_X8_280 kl_4 (by decide) rfl (rk_6_6 io_0) (z := 12) rfl ?_
    try simp (disch := omega) only [hs_same, hs_ne, fl_in, fl_ne, cp_inn, cp_nee]
    have k9 := k (by omega) (by omega) _ C fc
    unfold zestate at k9
    simp at k9
    refine s_ireturn dX8_estate_132 rfl ?_
    rw [RD.2.2.2.2.2.2.2.2.2.2.2.1]
    exact k9
  · refine s_tabOut (tgt := 133) dX8_estate_1 (by first | exact hG.2 _ _ | exact b01_in _ | assumption | exact ⟨by omega, by omega⟩) c1 (by decide) ?_
    refine s_throwN (w9 := 7) nh_0 dX8_estate_133 dX8_estate_136 (Or.inr ⟨rfl, dX8_estate_137⟩) dX8_estate_140 dX8_estate_143 ts_X8_138_283_142 (by omega) (by omega) (by omega) (Nat.le_of_ble_eq_true rfl) ?_
    exact k1 (by omega) h C fc
set_option maxRecDepth 100000 in
set_option maxHeartbeats 4000000 in
theorem c_X8_classed {c v : Int} (hd : 10 ≤ d) (hbc : 8 ≤ bc) (hbs : 48 ≤ bs) (C : CR_ h z) (hc : inI c) (hv : inI v) (k : 0 ≤ c → c ≤ 6 → 0 ≤ v → v ≤ 2 → OK_ Q h z (zclassed z c v)) (k1 : ¬ (0 ≤ c ∧ c ≤ 6) → TH_ Q h z IAE) (k2 : 0 ≤ c → c ≤ 6 → ¬ (0 ≤ v ∧ v ≤ 2) → TH_ Q h z vy_X) : Cl_ yX8_classed MX8_classed d bc bs [(2, 0), (0, c), (0, v)] nN h Q := by
  refine s_enter pn_X8 rfl (Nat.le_of_ble_eq_true rfl) (L := [(2, _), (0, _), (0, _)]) rfl ?_
  have hG := cr_g C
  have I := cr_i C
  obtain ⟨w, hw, W, hwf, P, CN⟩ := cr_w C
  have fc := FC.rf h
  have hT := I.2.1
  have hP := I.2.2.1
  have hN := I.2.2.2.1
  refine s_aload_n dX8_classed_0 rfl ?_
  refine s_iload_n dX8_classed_1 rfl ?_
  refine s_bipush dX8_classed_2 (by decide) ?_
  refine s_callV (d' := d - 1) (bc' := 1) (bs' := 6) (as := [_, _]) dX8_classed_4 vf_X8_285 (dd_ (by omega) (by decide)) ⟨by omega, by omega⟩ rfl rfl (Nat.le_of_ble_eq_true rfl) kl_6 rfl io_0 ?_
  refine c_X8_checkClass (by omega) (by omega) (by omega) hG (by assumption) ⟨by omega, by omega⟩ (fun m0 m1 => ?_) (fun e => k1 (by omega) _ C fc)
  refine s_iload_n dX8_classed_7 rfl ?_
  rcases (by omega : v = 0 ∨ v = 1 ∨ v = 2 ∨ (v < 0 ∨ 2 < v)) with rfl | rfl | rfl | c1
  · refine s_tabIn (tgt := 36) dX8_classed_8 (by first | exact hG.2 _ _ | exact b01_in _ | assumption | exact ⟨by omega, by omega⟩) (by decide) (by decide) rfl (by decide) ?_
    refine s_aload_n dX8_classed_36 rfl ?_
    refine s_callV (d' := d - 1) (bc' := 0) (bs' := 0) (as := []) dX8_classed_37 vf_X8_159 (dd_ (by omega) (by decide)) ⟨Nat.zero_le _, Nat.zero_le _⟩ rfl rfl (Nat.le_of_ble_eq_true rfl) kl_6 rfl io_0 ?_
    refine c_X8_reckoning (by omega) C (fun hh hG1 C st fc2 => ?_)
    have fc := fc.tr fc2
    obtain ⟨w, hw, W, hwf, P, CN⟩ := cr_w C
    have RD := cr_rd C st
    have hr := cr_rw C st hw
    have eN := P.1.2.2
    refine s_iload_n dX8_classed_40 rfl ?_
    refine s_callV (d' := d - 1) (bc' := 0) (bs' := 0) (as := [_]) dX8_classed_41 vf_X8_299 (dd_ (by omega) (by decide)) ⟨Nat.zero_le _, Nat.zero_le _⟩ rfl rfl (Nat.le_of_ble_eq_true rfl) kl_4 rfl (rk_6_6 io_0) ?_
    refine c_X5_dueOfAll (by omega) (rk_6_6 io_0) hG1 hr W (by omega) (by omega) (by omega) (by omega) ?_
    rw [eN, sumI_congr (g := fun g => zde z g c) _ _ (fun g y0 y1 => (RD.2.2.2.1 g c y0 (by omega) m0 (by omega)).1)]
    have k9 := k m0 m1 (by omega) (by omega) _ C fc
    unfold zclassed at k9
    simp at k9
    exact s_ireturn dX8_classed_44 rfl k9
  · refine s_tabIn (tgt := 45) dX8_classed_8 (by first | exact hG.2 _ _ | exact b01_in _ | assumption | exact ⟨by omega, by omega⟩) (by decide) (by decide) rfl (by decide) ?_
    refine s_aload_n dX8_classed_45 rfl ?_
    refine s_callV (d' := d - 1) (bc' := 0) (bs' := 0) (as := []) dX8_classed_46 vf_X8_159 (dd_ (by omega) (by decide)) ⟨Nat.zero_le _, Nat.zero_le _⟩ rfl rfl (Nat.le_of_ble_eq_true rfl) kl_6 rfl io_0 ?_
    refine c_X8_reckoning (by omega) C (fun hh hG2 C st fc2 => ?_)
    have fc := fc.tr fc2
    obtain ⟨w, hw, W, hwf, P, CN⟩ := cr_w C
    have RD := cr_rd C st
    have hr := cr_rw C st hw
    have eN := P.1.2.2
    refine s_iload_n dX8_classed_49 rfl ?_
    refine s_callV (d' := d - 1) (bc' := 0) (bs' := 0) (as := [_]) dX8_classed_50 vf_X8_302 (dd_ (by omega) (by decide)) ⟨Nat.zero_le _, Nat.zero_le _⟩ rfl rfl (Nat.le_of_ble_eq_true rfl) kl_4 rfl (rk_6_6 io_0) ?_
    refine c_X5_gotByAll (by omega) (rk_6_6 io_0) hG2 hr W (by omega) (by omega) (by omega) (by omega) ?_
    rw [eN, sumI_congr (g := fun g => zgt z g c) _ _ (fun g y0 y1 => (RD.2.2.2.1 g c y0 (by omega) m0 (by omega)).2)]
    have k9 := k m0 m1 (by omega) (by omega) _ C fc
    unfold zclassed at k9
    simp at k9
    exact s_ireturn dX8_classed_53 rfl k9
  · refine s_tabIn (tgt := 54) dX8_classed_8 (by first | exact hG.2 _ _ | exact b01_in _ | assumption | exact ⟨by omega, by omega⟩) (by decide) (by decide) rfl (by decide) ?_
    refine s_aload_n dX8_classed_54 rfl ?_
    refine s_callV (d' := d - 1) (bc' := 0) (bs' := 0) (as := []) dX8_classed_55 vf_X8_159 (dd_ (by omega) (by decide)) ⟨Nat.zero_le _, Nat.zero_le _⟩ rfl rfl (Nat.le_of_ble_eq_true rfl) kl_6 rfl io_0 ?_
    refine c_X8_reckoning (by omega) C (fun hh hG3 C st fc2 => ?_)
    have fc := fc.tr fc2
    obtain ⟨w, hw, W, hwf, P, CN⟩ := cr_w C
    have RD := cr_rd C st
    have hr := cr_rw C st hw
    have eN := P.1.2.2
    refine s_iload_n dX8_classed_58 rfl ?_
    refine s_callV (d' := d - 1) (bc' := 0) (bs' := 0) (as := [_]) dX8_classed_59 vf_X8_305 (dd_ (by omega) (by decide)) ⟨Nat.zero_le _, Nat.zero_le _⟩ rfl rfl (Nat.le_of_ble_eq_true rfl) kl_4 rfl (rk_6_6 io_0) ?_
    refine c_X5_countDue (rk_6_6 io_0) hG3 hr W (by omega) (by omega) (by omega) (by omega) ?_
    rw [eN, sumI_congr (g := fun g => if 0 < zde z g c then 1 else 0) _ _ (fun g y0 y1 => by rw [(RD.2.2.2.1 g c y0 (by omega) m0 (by omega)).1])]
    have k9 := k m0 m1 (by omega) (by omega) _ C fc
    unfold zclassed at k9
    simp at k9
    exact s_ireturn dX8_classed_62 rfl k9
  · refine s_tabOut (tgt := 63) dX8_classed_8 (by first | exact hG.2 _ _ | exact b01_in _ | assumption | exact ⟨by omega, by omega⟩) c1 (by decide) ?_
    refine s_throwN (w9 := 7) nh_0 dX8_classed_63 dX8_classed_66 (Or.inr ⟨rfl, dX8_classed_67⟩) dX8_classed_70 dX8_classed_73 ts_X8_138_308_142 (by omega) (by omega) (by omega) (Nat.le_of_ble_eq_true rfl) ?_
    exact k2 m0 m1 (by omega) h C fc
set_option maxRecDepth 100000 in
set_option maxHeartbeats 4000000 in
theorem c_X8_leastDebt {c : Int} (hd : 10 ≤ d) (hbc : 8 ≤ bc) (hbs : 48 ≤ bs) (C : CR_ h z) (hc : inI c) (k : 0 ≤ c → c ≤ 4 → OK_ Q h z (zleast z c)) (k1 : ¬ (0 ≤ c ∧ c ≤ 4) → TH_ Q h z IAE) : Cl_ yX8_leastDebt MX8_leastDebt d bc bs [(2, 0), (0, c)] nN h Q := by
  refine s_enter pn_X8 rfl (Nat.le_of_ble_eq_true rfl) (L := [(2, _), (0, _)]) rfl ?_
  have hG := cr_g C
  have I := cr_i C
  obtain ⟨w, hw, W, hwf, P, CN⟩ := cr_w C
  have fc := FC.rf h
  have hT := I.2.1
  have hP := I.2.2.1
  have hN := I.2.2.2.1
  have be := zes_bd I
  refine s_aload_n dX8_leastDebt_0 rfl ?_
  refine s_iload_n dX8_leastDebt_1 rfl ?_
  refine s_iconst dX8_leastDebt_2 ?_
  refine s_callV (d' := d - 1) (bc' := 1) (bs' := 6) (as := [_, _]) dX8_leastDebt_3 vf_X8_285 (dd_ (by omega) (by decide)) ⟨by omega, by omega⟩ rfl rfl (Nat.le_of_ble_eq_true rfl) kl_6 rfl io_0 ?_
  refine c_X8_checkClass (by omega) (by omega) (by omega) hG (by assumption) ⟨by omega, by omega⟩ (fun m0 m1 => ?_) (fun e => k1 (by omega) _ C fc)
  have bu := zdut_bd I (c := c) m0 (by omega)
  have bs9 := zsd_bd I (c := c) m0 (by omega)
  refine s_aload_n dX8_leastDebt_6 rfl ?_
  refine s_callV (d' := d - 1) (bc' := 0) (bs' := 0) (as := []) dX8_leastDebt_7 vf_X8_159 (dd_ (by omega) (by decide)) ⟨Nat.zero_le _, Nat.zero_le _⟩ rfl rfl (Nat.le_of_ble_eq_true rfl) kl_6 rfl io_0 ?_
  refine c_X8_reckoning (by omega) C (fun hh hG1 C st fc2 => ?_)
  have fc := fc.tr fc2
  obtain ⟨w, hw, W, hwf, P, CN⟩ := cr_w C
  have RD := cr_rd C st
  have hr := cr_rw C st hw
  have eN := P.1.2.2
  refine s_iload_n dX8_leastDebt_10 rfl ?_
  refine s_callV (d' := d - 1) (bc' := 0) (bs' := 0) (as := [_]) dX8_leastDebt_11 vf_X8_299 (dd_ (by omega) (by decide)) ⟨Nat.zero_le _, Nat.zero_le _⟩ rfl rfl (Nat.le_of_ble_eq_true rfl) kl_4 rfl (rk_6_6 io_0) ?_
  refine c_X5_dueOfAll (by omega) (rk_6_6 io_0) hG1 hr W (by omega) (by omega) (by omega) (by omega) ?_
  rw [eN, sumI_congr (g := fun g => zde z g c) _ _ (fun g y0 y1 => (RD.2.2.2.1 g c y0 (by omega) m0 (by omega)).1)]
  refine s_if_ne (tgt := 19) dX8_leastDebt_14 (by decide) (by first | exact hG1.2 _ _ | exact hG.2 _ _ | exact b01_in _ | assumption | exact ⟨by omega, by omega⟩) (fun c1 => ?_) (fun c1 => ?_)
  · refine s_iconst dX8_leastDebt_19 ?_
    refine s_aload_n dX8_leastDebt_20 rfl ?_
    refine s_callV (d' := d - 1) (bc' := 0) (bs' := 0) (as := []) dX8_leastDebt_21 vf_X8_159 (dd_ (by omega) (by decide)) ⟨Nat.zero_le _, Nat.zero_le _⟩ rfl rfl (Nat.le_of_ble_eq_true rfl) kl_6 rfl io_0 ?_
    refine c_X8_reckoning (by omega) C (fun hh hG2 C st fc2 => ?_)
    have fc := fc.tr fc2
    obtain ⟨w, hw, W, hwf, P, CN⟩ := cr_w C
    have RD := cr_rd C st
    have hr := cr_rw C st hw
    have eN := P.1.2.2
    refine s_geti dX8_leastDebt_24 fl_X8_260 kl_4 (by decide) rfl (rk_6_6 io_0) (z := 7) rfl ?_
    try simp (disch := omega) only [hs_same, hs_ne, fl_in, fl_ne, cp_inn, cp_nee]
    rw [RD.2.2.2.2.2.2.1]
    refine s_aload_n dX8_leastDebt_27 rfl ?_
    refine s_callV (d' := d - 1) (bc' := 0) (bs' := 0) (as := []) dX8_leastDebt_28 vf_X8_159 (dd_ (by omega) (by decide)) ⟨Nat.zero_le _, Nat.zero_le _⟩ rfl rfl (Nat.le_of_ble_eq_true rfl) kl_6 rfl io_0 ?_
    refine c_X8_reckoning (by omega) C (fun hh hG3 C st fc2 => ?_)
    have fc := fc.tr fc2
    obtain ⟨w, hw, W, hwf, P, CN⟩ := cr_w C
    have RD := cr_rd C st
    have hr := cr_rw C st hw
    have eN := P.1.2.2
    refine s_iload_n dX8_leastDebt_31 rfl ?_
    refine s_callV (d' := d - 1) (bc' := 0) (bs' := 0) (as := [_]) dX8_leastDebt_32 vf_X8_312 (dd_ (by omega) (by decide)) ⟨Nat.zero_le _, Nat.zero_le _⟩ rfl rfl (Nat.le_of_ble_eq_true rfl) kl_4 rfl (rk_6_6 io_0) ?_
    refine c_X5_dueUpTo (by omega) (rk_6_6 io_0) hG3 hr W (by omega) (by omega) (by omega) (by omega) ?_
    rw [sumI_congr (g := fun k => sumI (fun g => zde z g k) 0 (z 0 2).toNat) _ _ (fun k x0 x1 => by rw [eN]; exact sumI_congr _ _ (fun g y0 y1 => (RD.2.2.2.1 g k y0 (by omega) x0 (by omega)).1))]
    rw [show sumI (fun k => sumI (fun g => zde z g k) 0 (z 0 2).toNat) 0 (c + 1).toNat = zdut z c from rfl]
    refine s_isub dX8_leastDebt_35 ?_
    refine s_iconst dX8_leastDebt_36 ?_
    refine s_iadd dX8_leastDebt_37 ?_
    refine s_mmax dX8_leastDebt_38 jm_X8_266 (by first | exact hG3.2 _ _ | exact hG.2 _ _ | exact b01_in _ | assumption | exact ⟨by omega, by omega⟩) (by first | exact hG3.2 _ _ | exact hG.2 _ _ | exact b01_in _ | assumption | exact ⟨by omega, by omega⟩) (by omega) (Nat.le_of_ble_eq_true rfl) ?_
    have k9 := k m0 m1 _ C fc
    unfold zleast at k9
    first
      | (rw [if_pos (by omega)] at k9; exact s_ireturn dX8_leastDebt_41 rfl k9)
      | (rw [if_neg (by omega)] at k9; exact s_ireturn dX8_leastDebt_41 rfl k9)
  · refine s_iconst dX8_leastDebt_17 ?_
    have k9 := k m0 m1 _ C fc
    unfold zleast at k9
    first
      | (rw [if_pos (by omega)] at k9; exact s_ireturn dX8_leastDebt_18 rfl k9)
      | (rw [if_neg (by omega)] at k9; exact s_ireturn dX8_leastDebt_18 rfl k9)
set_option maxRecDepth 100000 in
set_option maxHeartbeats 4000000 in
theorem c_X8_taken {p v : Int} (hd : 10 ≤ d) (hbc : 8 ≤ bc) (hbs : 48 ≤ bs) (C : CR_ h z) (hp : inI p) (hv : inI v) (k : 0 ≤ p → p < z 0 1 → 0 ≤ v → v ≤ 2 → OK_ Q h z (ztaken z p v)) (k1 : ¬ (0 ≤ p ∧ p < z 0 1) → TH_ Q h z IOB) (k2 : 0 ≤ p → p < z 0 1 → ¬ (0 ≤ v ∧ v ≤ 2) → TH_ Q h z vy_X) : Cl_ yX8_taken MX8_taken d bc bs [(2, 0), (0, p), (0, v)] nN h Q := by
  refine s_enter pn_X8 rfl (Nat.le_of_ble_eq_true rfl) (L := [(2, _), (0, _), (0, _)]) rfl ?_
  have hG := cr_g C
  have I := cr_i C
  obtain ⟨w, hw, W, hwf, P, CN⟩ := cr_w C
  have fc := FC.rf h
  have hT := I.2.1
  have hP := I.2.2.1
  have hN := I.2.2.2.1
  refine s_aload_n dX8_taken_0 rfl ?_
  refine s_iload_n dX8_taken_1 rfl ?_
  refine s_callV (d' := d - 1) (bc' := 1) (bs' := 6) (as := [_]) dX8_taken_2 vf_X8_102 (dd_ (by omega) (by decide)) ⟨by omega, by omega⟩ rfl rfl (Nat.le_of_ble_eq_true rfl) kl_6 rfl io_0 ?_
  refine c_X8_checkPerson (by omega) (by omega) (by omega) C (by assumption) (fun p0 p1 => ?_) (fun e => k1 (by omega) h C (FC.rf h))
  refine s_iload_n dX8_taken_5 rfl ?_
  rcases (by omega : v = 0 ∨ v = 1 ∨ v = 2 ∨ (v < 0 ∨ 2 < v)) with rfl | rfl | rfl | c1
  · refine s_tabIn (tgt := 32) dX8_taken_6 (by first | exact hG.2 _ _ | exact b01_in _ | assumption | exact ⟨by omega, by omega⟩) (by decide) (by decide) rfl (by decide) ?_
    refine s_aload_n dX8_taken_32 rfl ?_
    refine s_callV (d' := d - 1) (bc' := 0) (bs' := 0) (as := []) dX8_taken_33 vf_X8_159 (dd_ (by omega) (by decide)) ⟨Nat.zero_le _, Nat.zero_le _⟩ rfl rfl (Nat.le_of_ble_eq_true rfl) kl_6 rfl io_0 ?_
    refine c_X8_reckoning (by omega) C (fun hh hG1 C st fc2 => ?_)
    have fc := fc.tr fc2
    obtain ⟨w, hw, W, hwf, P, CN⟩ := cr_w C
    have RD := cr_rd C st
    have hr := cr_rw C st hw
    have eN := P.1.2.2
    refine s_iload_n dX8_taken_36 rfl ?_
    refine s_callV (d' := d - 1) (bc' := 0) (bs' := 0) (as := [_]) dX8_taken_37 vf_X8_325 (dd_ (by omega) (by decide)) ⟨Nat.zero_le _, Nat.zero_le _⟩ rfl rfl (Nat.le_of_ble_eq_true rfl) kl_4 rfl (rk_6_6 io_0) ?_
    refine c_X5_takenInAll (rk_6_6 io_0) hG1 hr W (by omega) (by omega) (by omega) (by omega) ?_
    rw [tk_of RD eN p0 p1]
    have k9 := k p0 p1 (by omega) (by omega) _ C fc
    unfold ztaken at k9
    simp at k9
    exact s_ireturn dX8_taken_40 rfl k9
  · refine s_tabIn (tgt := 41) dX8_taken_6 (by first | exact hG.2 _ _ | exact b01_in _ | assumption | exact ⟨by omega, by omega⟩) (by decide) (by decide) rfl (by decide) ?_
    refine s_aload_n dX8_taken_41 rfl ?_
    refine s_callV (d' := d - 1) (bc' := 0) (bs' := 0) (as := []) dX8_taken_42 vf_X8_159 (dd_ (by omega) (by decide)) ⟨Nat.zero_le _, Nat.zero_le _⟩ rfl rfl (Nat.le_of_ble_eq_true rfl) kl_6 rfl io_0 ?_
    refine c_X8_reckoning (by omega) C (fun hh hG2 C st fc2 => ?_)
    have fc := fc.tr fc2
    obtain ⟨w, hw, W, hwf, P, CN⟩ := cr_w C
    have RD := cr_rd C st
    have hr := cr_rw C st hw
    have eN := P.1.2.2
    refine s_getr dX8_taken_45 fl_X8_328 kl_4 (by decide) rfl (rk_6_6 io_0) (z := 6) rfl (rf_4_6 hG2.1 (rk_6_6 io_0)) (rk_4_6 (rk_6_6 io_0)).1 ?_
    refine s_iload_n dX8_taken_48 rfl ?_
    refine s_iaload dX8_taken_49 (rk_4_6 (rk_6_6 io_0)) (by omega) (by omega) ?_
    try simp (disch := omega) only [hs_same, hs_ne, fl_in, fl_ne, cp_inn, cp_nee]
    have k9 := k p0 p1 (by omega) (by omega) _ C fc
    unfold ztaken at k9
    simp at k9
    refine s_ireturn dX8_taken_50 rfl ?_
    rw [(RD.2.2.2.2.2.1 p p0 p1).1]
    exact k9
  · refine s_tabIn (tgt := 51) dX8_taken_6 (by first | exact hG.2 _ _ | exact b01_in _ | assumption | exact ⟨by omega, by omega⟩) (by decide) (by decide) rfl (by decide) ?_
    refine s_aload_n dX8_taken_51 rfl ?_
    refine s_callV (d' := d - 1) (bc' := 0) (bs' := 0) (as := []) dX8_taken_52 vf_X8_159 (dd_ (by omega) (by decide)) ⟨Nat.zero_le _, Nat.zero_le _⟩ rfl rfl (Nat.le_of_ble_eq_true rfl) kl_6 rfl io_0 ?_
    refine c_X8_reckoning (by omega) C (fun hh hG3 C st fc2 => ?_)
    have fc := fc.tr fc2
    obtain ⟨w, hw, W, hwf, P, CN⟩ := cr_w C
    have RD := cr_rd C st
    have hr := cr_rw C st hw
    have eN := P.1.2.2
    refine s_iload_n dX8_taken_55 rfl ?_
    refine s_callV (d' := d - 1) (bc' := 0) (bs' := 0) (as := [_]) dX8_taken_56 vf_X8_331 (dd_ (by omega) (by decide)) ⟨Nat.zero_le _, Nat.zero_le _⟩ rfl rfl (Nat.le_of_ble_eq_true rfl) kl_4 rfl (rk_6_6 io_0) ?_
    refine c_X5_takenOfOthers (rk_6_6 io_0) hG3 hr W (by omega) (by omega) (by omega) (by omega) ?_
    rw [eN, sumI_congr (g := fun g => if z 6 g = p then 0 else ztk z g p) _ _ (fun g y0 y1 => by rw [(P.2.2.2 g y0 (by omega)).2.1, (RD.2.2.2.2.1 g p y0 (by omega) p0 p1).1])]
    have k9 := k p0 p1 (by omega) (by omega) _ C fc
    unfold ztaken at k9
    simp at k9
    exact s_ireturn dX8_taken_59 rfl k9
  · refine s_tabOut (tgt := 60) dX8_taken_6 (by first | exact hG.2 _ _ | exact b01_in _ | assumption | exact ⟨by omega, by omega⟩) c1 (by decide) ?_
    refine s_throwN (w9 := 7) nh_0 dX8_taken_60 dX8_taken_63 (Or.inr ⟨rfl, dX8_taken_64⟩) dX8_taken_67 dX8_taken_70 ts_X8_138_334_142 (by omega) (by omega) (by omega) (Nat.le_of_ble_eq_true rfl) ?_
    exact k2 p0 p1 (by omega) h C fc
end X8C
