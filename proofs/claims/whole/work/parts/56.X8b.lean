/-! WillHouse: what only tells -/
section X8B
variable {d bc bs : Nat} {Q : PQ} {h z : PH}
set_option maxRecDepth 100000 in
set_option maxHeartbeats 4000000 in
theorem c_X8_fault  (hd : 10 ≤ d) (hbc : 8 ≤ bc) (hbs : 48 ≤ bs) (C : CR_ h z) (k : OK_ Q h z (z 52 0)) : Cl_ yX8_fault MX8_fault d bc bs [(2, 0)] nN h Q := by
  refine s_enter pn_X8 rfl (Nat.le_of_ble_eq_true rfl) (L := [(2, _)]) rfl ?_
  have hG := cr_g C
  have I := cr_i C
  obtain ⟨w, hw, W, hwf, P, CN⟩ := cr_w C
  have fc := FC.rf h
  have hT := I.2.1
  have hP := I.2.2.1
  have hN := I.2.2.2.1
  refine s_aload_n dX8_fault_0 rfl ?_
  refine s_getr dX8_fault_1 fl_X8_18 kl_6 (by decide) rfl io_0 (z := 2) rfl (rf_6_2 hG.1 io_0) (rk_6_2 io_0).1 ?_
  refine s_geti dX8_fault_4 fl_X8_99 kl_3 (by decide) rfl (rk_6_2 io_0) (z := 2) rfl ?_
  refine s_ireturn dX8_fault_7 rfl ?_
  rw [show h (0 + 2) 2 = z 52 0 from C.2.2.2.2.2.2.2.1]
  exact k h C fc
theorem nl_w {w : Int} (W : isO nN w 5) : nl_ (w + 1) = 8 ∧ nl_ (w + 14) = 12 := by
  rcases io_of_5 W with rfl | rfl <;> decide
set_option maxRecDepth 100000 in
set_option maxHeartbeats 4000000 in
theorem c_X8_name {q i j : Int} (hd : 10 ≤ d) (hbc : 8 ≤ bc) (hbs : 48 ≤ bs) (C : CR_ h z) (hq : q = 0 ∨ q = 1) (hi : inI i) (hj : inI j) (k : (if q = 0 then 0 ≤ i ∧ i < z 0 0 else 0 ≤ i ∧ i < z 0 1) → OK_ Q h z (zname z q i j)) (k1 : ¬ (if q = 0 then 0 ≤ i ∧ i < z 0 0 else 0 ≤ i ∧ i < z 0 1) → TH_ Q h z IOB) : Cl_ yX8_name MX8_name d bc bs [(2, 0), (0, q), (0, i), (0, j)] nN h Q := by
  refine s_enter pn_X8 rfl (Nat.le_of_ble_eq_true rfl) (L := [(2, _), (0, _), (0, _), (0, _)]) rfl ?_
  have hG := cr_g C
  have I := cr_i C
  obtain ⟨w, hw, W, hwf, P, CN⟩ := cr_w C
  have fc := FC.rf h
  have hT := I.2.1
  have hP := I.2.2.1
  have hN := I.2.2.2.1
  refine s_iload_n dX8_name_0 rfl ?_
  refine s_if_eq (tgt := 22) dX8_name_1 (by decide) (by first | exact hG.2 _ _ | exact b01_in _ | assumption | exact ⟨by omega, by omega⟩) (fun c1 => ?_) (fun c1 => ?_)
  · refine s_aload_n dX8_name_22 rfl ?_
    refine s_iload_n dX8_name_23 rfl ?_
    refine s_callV (d' := d - 1) (bc' := 1) (bs' := 6) (as := [_]) dX8_name_24 vf_X8_115 (dd_ (by omega) (by decide)) ⟨by omega, by omega⟩ rfl rfl (Nat.le_of_ble_eq_true rfl) kl_6 rfl io_0 ?_
    refine c_X8_checkThing (by omega) (by omega) (by omega) C (by assumption) (fun t0 t1 => ?_) (fun e => k1 (by rw [if_pos (by omega)]; exact e) h C (FC.rf h))
    refine s_aload_n dX8_name_27 rfl ?_
    refine s_getr dX8_name_28 fl_X8_25 kl_6 (by decide) rfl io_0 (z := 3) rfl (by first | exact hw | (simp (disch := omega) only [hs_same, hs_ne, fl_in, fl_ne, cp_inn, cp_nee]; exact hw)) (W).1 ?_
    refine s_getr dX8_name_31 fl_X8_118 kl_5 (by decide) rfl W (z := 0) rfl (rf_5_0 hG.1 W) (rk_5_0 W).1 ?_
    refine s_iload_n dX8_name_34 rfl ?_
    refine s_iload_n dX8_name_35 rfl ?_
    refine s_callV (d' := d - 1) (bc' := 0) (bs' := 0) (as := [_, _]) dX8_name_36 vf_X8_109 (dd_ (by omega) (by decide)) ⟨Nat.zero_le _, Nat.zero_le _⟩ rfl rfl (Nat.le_of_ble_eq_true rfl) kl_2 rfl (rk_5_0 W) ?_
    have hl := ((cr_b C).2.2.2.1 i t0 t1).1
    have en := CN.1 i t0 t1
    have e1 : h (w + 1 + 1) i = z 10 i := by rw [show w + 1 + 1 = w + 2 by omega]; exact en.1
    refine c_X3_letter (rk_5_0 W) hG (by omega) (by rw [(nl_w W).1]; omega) (by assumption) (by omega) ?_
    rw [e1, show w + 1 + 2 + 1 + i = w + 4 + i by omega]
    have k9 := k (by rw [if_pos (by omega)]; exact ⟨t0, t1⟩) h C fc
    unfold zname at k9
    rw [if_pos (by omega)] at k9
    refine s_ireturn dX8_name_39 rfl ?_
    by_cases e : 0 ≤ j ∧ j < z 10 i
    · rw [if_pos e] at k9 ⊢
      rw [en.2 j e.1 e.2]
      exact k9
    · rw [if_neg e] at k9 ⊢
      exact k9
  · refine s_aload_n dX8_name_4 rfl ?_
    refine s_iload_n dX8_name_5 rfl ?_
    refine s_callV (d' := d - 1) (bc' := 1) (bs' := 6) (as := [_]) dX8_name_6 vf_X8_102 (dd_ (by omega) (by decide)) ⟨by omega, by omega⟩ rfl rfl (Nat.le_of_ble_eq_true rfl) kl_6 rfl io_0 ?_
    refine c_X8_checkPerson (by omega) (by omega) (by omega) C (by assumption) (fun p0 p1 => ?_) (fun e => k1 (by rw [if_neg (by omega)]; exact e) h C (FC.rf h))
    refine s_aload_n dX8_name_9 rfl ?_
    refine s_getr dX8_name_10 fl_X8_25 kl_6 (by decide) rfl io_0 (z := 3) rfl (by first | exact hw | (simp (disch := omega) only [hs_same, hs_ne, fl_in, fl_ne, cp_inn, cp_nee]; exact hw)) (W).1 ?_
    refine s_getr dX8_name_13 fl_X8_105 kl_5 (by decide) rfl W (z := 3) rfl (rf_5_3 hG.1 W) (rk_5_3 W).1 ?_
    refine s_iload_n dX8_name_16 rfl ?_
    refine s_iload_n dX8_name_17 rfl ?_
    refine s_callV (d' := d - 1) (bc' := 0) (bs' := 0) (as := [_, _]) dX8_name_18 vf_X8_109 (dd_ (by omega) (by decide)) ⟨Nat.zero_le _, Nat.zero_le _⟩ rfl rfl (Nat.le_of_ble_eq_true rfl) kl_2 rfl (rk_5_3 W) ?_
    have hl := ((cr_b C).2.2.2.2.1 i p0 p1).1
    have en := CN.2 i p0 p1
    have e1 : h (w + 14 + 1) i = z 11 i := by rw [show w + 14 + 1 = w + 15 by omega]; exact en.1
    refine c_X3_letter (rk_5_3 W) hG (by omega) (by rw [(nl_w W).2]; omega) (by assumption) (by omega) ?_
    rw [e1, show w + 14 + 2 + 1 + i = w + 17 + i by omega]
    have k9 := k (by rw [if_neg (by omega)]; exact ⟨p0, p1⟩) h C fc
    unfold zname at k9
    rw [if_neg (by omega)] at k9
    refine s_ireturn dX8_name_21 rfl ?_
    by_cases e : 0 ≤ j ∧ j < z 11 i
    · rw [if_pos e] at k9 ⊢
      rw [en.2 j e.1 e.2]
      exact k9
    · rw [if_neg e] at k9 ⊢
      exact k9
set_option maxRecDepth 100000 in
set_option maxHeartbeats 4000000 in
theorem c_X8_thing {t v : Int} (hd : 10 ≤ d) (hbc : 8 ≤ bc) (hbs : 48 ≤ bs) (C : CR_ h z) (ht : inI t) (hv : inI v) (k : 0 ≤ t → t < z 0 0 → 0 ≤ v → v ≤ 4 → OK_ Q h z (zthing z t v)) (k1 : ¬ (0 ≤ t ∧ t < z 0 0) → TH_ Q h z IOB) (k2 : 0 ≤ t → t < z 0 0 → ¬ (0 ≤ v ∧ v ≤ 4) → TH_ Q h z vy_X) : Cl_ yX8_thing MX8_thing d bc bs [(2, 0), (0, t), (0, v)] nN h Q := by
  refine s_enter pn_X8 rfl (Nat.le_of_ble_eq_true rfl) (L := [(2, _), (0, _), (0, _)]) rfl ?_
  have hG := cr_g C
  have I := cr_i C
  obtain ⟨w, hw, W, hwf, P, CN⟩ := cr_w C
  have fc := FC.rf h
  have hT := I.2.1
  have hP := I.2.2.1
  have hN := I.2.2.2.1
  refine s_aload_n dX8_thing_0 rfl ?_
  refine s_iload_n dX8_thing_1 rfl ?_
  refine s_callV (d' := d - 1) (bc' := 1) (bs' := 6) (as := [_]) dX8_thing_2 vf_X8_115 (dd_ (by omega) (by decide)) ⟨by omega, by omega⟩ rfl rfl (Nat.le_of_ble_eq_true rfl) kl_6 rfl io_0 ?_
  refine c_X8_checkThing (by omega) (by omega) (by omega) C (by assumption) (fun t0 t1 => ?_) (fun e => k1 (by omega) h C (FC.rf h))
  have b8 := I.1.1 t t0 (by omega)
  refine s_iload_n dX8_thing_5 rfl ?_
  rcases (by omega : v = 0 ∨ v = 1 ∨ v = 2 ∨ v = 3 ∨ v = 4 ∨ (v < 0 ∨ 4 < v)) with rfl | rfl | rfl | rfl | rfl | c1
  · refine s_tabIn (tgt := 40) dX8_thing_6 (by first | exact hG.2 _ _ | exact b01_in _ | assumption | exact ⟨by omega, by omega⟩) (by decide) (by decide) rfl (by decide) ?_
    refine s_aload_n dX8_thing_40 rfl ?_
    refine s_getr dX8_thing_41 fl_X8_32 kl_6 (by decide) rfl io_0 (z := 4) rfl (rf_6_4 hG.1 io_0) (rk_6_4 io_0).1 ?_
    refine s_iload_n dX8_thing_44 rfl ?_
    refine s_callV (d' := d - 1) (bc' := 0) (bs' := 0) (as := [_]) dX8_thing_45 vf_X8_121 (dd_ (by omega) (by decide)) ⟨Nat.zero_le _, Nat.zero_le _⟩ rfl rfl (Nat.le_of_ble_eq_true rfl) kl_1 rfl (rk_6_4 io_0) ?_
    refine c_X2_worth (rk_6_4 io_0) hG (by omega) (by omega) ?_
    rw [P.2.1 _ (by omega) (by omega)]
    have k9 := k t0 t1 (by omega) (by omega) h C fc
    refine s_ireturn dX8_thing_48 rfl ?_
    unfold zthing at k9
    first
      | (simp at k9; simpa using k9)
      | (simp at k9; rw [if_pos (by omega)] at k9; simpa using k9)
      | (simp at k9; rw [if_neg (by omega)] at k9; simpa using k9)
  · refine s_tabIn (tgt := 49) dX8_thing_6 (by first | exact hG.2 _ _ | exact b01_in _ | assumption | exact ⟨by omega, by omega⟩) (by decide) (by decide) rfl (by decide) ?_
    refine s_aload_n dX8_thing_49 rfl ?_
    refine s_getr dX8_thing_50 fl_X8_32 kl_6 (by decide) rfl io_0 (z := 4) rfl (rf_6_4 hG.1 io_0) (rk_6_4 io_0).1 ?_
    refine s_iload_n dX8_thing_53 rfl ?_
    refine s_callV (d' := d - 1) (bc' := 0) (bs' := 0) (as := [_]) dX8_thing_54 vf_X8_125 (dd_ (by omega) (by decide)) ⟨Nat.zero_le _, Nat.zero_le _⟩ rfl rfl (Nat.le_of_ble_eq_true rfl) kl_1 rfl (rk_6_4 io_0) ?_
    refine c_X2_state (rk_6_4 io_0) hG (by omega) (by omega) ?_
    rw [P.2.1 _ (by omega) (by omega)]
    have k9 := k t0 t1 (by omega) (by omega) h C fc
    refine s_ireturn dX8_thing_57 rfl ?_
    unfold zthing at k9
    first
      | (simp at k9; simpa using k9)
      | (simp at k9; rw [if_pos (by omega)] at k9; simpa using k9)
      | (simp at k9; rw [if_neg (by omega)] at k9; simpa using k9)
  · refine s_tabIn (tgt := 58) dX8_thing_6 (by first | exact hG.2 _ _ | exact b01_in _ | assumption | exact ⟨by omega, by omega⟩) (by decide) (by decide) rfl (by decide) ?_
    refine s_aload_n dX8_thing_58 rfl ?_
    refine s_getr dX8_thing_59 fl_X8_32 kl_6 (by decide) rfl io_0 (z := 4) rfl (rf_6_4 hG.1 io_0) (rk_6_4 io_0).1 ?_
    refine s_iload_n dX8_thing_62 rfl ?_
    refine s_callV (d' := d - 1) (bc' := 0) (bs' := 0) (as := [_]) dX8_thing_63 vf_X8_125 (dd_ (by omega) (by decide)) ⟨Nat.zero_le _, Nat.zero_le _⟩ rfl rfl (Nat.le_of_ble_eq_true rfl) kl_1 rfl (rk_6_4 io_0) ?_
    refine c_X2_state (rk_6_4 io_0) hG (by omega) (by omega) ?_
    rw [P.2.1 _ (by omega) (by omega)]
    refine s_iconst dX8_thing_66 ?_
    refine s_icmp_ne (tgt := 81) dX8_thing_67 (by decide) (by first | exact hG.2 _ _ | exact b01_in _ | assumption | exact ⟨by omega, by omega⟩) (by first | exact hG.2 _ _ | exact b01_in _ | assumption | exact ⟨by omega, by omega⟩) (fun c2 => ?_) (fun c2 => ?_)
    · refine s_iconst dX8_thing_81 ?_
      have k9 := k t0 t1 (by omega) (by omega) h C fc
      refine s_ireturn dX8_thing_82 rfl ?_
      unfold zthing at k9
      first
        | (simp at k9; simpa using k9)
        | (simp at k9; rw [if_pos (by omega)] at k9; simpa using k9)
        | (simp at k9; rw [if_neg (by omega)] at k9; simpa using k9)
    · refine s_aload_n dX8_thing_70 rfl ?_
      refine s_getr dX8_thing_71 fl_X8_32 kl_6 (by decide) rfl io_0 (z := 4) rfl (rf_6_4 hG.1 io_0) (rk_6_4 io_0).1 ?_
      refine s_iload_n dX8_thing_74 rfl ?_
      refine s_callV (d' := d - 1) (bc' := 0) (bs' := 0) (as := [_]) dX8_thing_75 vf_X8_128 (dd_ (by omega) (by decide)) ⟨Nat.zero_le _, Nat.zero_le _⟩ rfl rfl (Nat.le_of_ble_eq_true rfl) kl_1 rfl (rk_6_4 io_0) ?_
      refine c_X2_price (rk_6_4 io_0) hG (by omega) (by omega) ?_
      rw [P.2.1 _ (by omega) (by omega)]
      refine s_goto (tgt := 82) dX8_thing_78 (by decide) ?_
      have k9 := k t0 t1 (by omega) (by omega) h C fc
      refine s_ireturn dX8_thing_82 rfl ?_
      unfold zthing at k9
      first
        | (simp at k9; simpa using k9)
        | (simp at k9; rw [if_pos (by omega)] at k9; simpa using k9)
        | (simp at k9; rw [if_neg (by omega)] at k9; simpa using k9)
  · refine s_tabIn (tgt := 83) dX8_thing_6 (by first | exact hG.2 _ _ | exact b01_in _ | assumption | exact ⟨by omega, by omega⟩) (by decide) (by decide) rfl (by decide) ?_
    refine s_aload_n dX8_thing_83 rfl ?_
    refine s_getr dX8_thing_84 fl_X8_32 kl_6 (by decide) rfl io_0 (z := 4) rfl (rf_6_4 hG.1 io_0) (rk_6_4 io_0).1 ?_
    refine s_iload_n dX8_thing_87 rfl ?_
    refine s_callV (d' := d - 1) (bc' := 0) (bs' := 0) (as := [_]) dX8_thing_88 vf_X8_131 (dd_ (by omega) (by decide)) ⟨Nat.zero_le _, Nat.zero_le _⟩ rfl rfl (Nat.le_of_ble_eq_true rfl) kl_1 rfl (rk_6_4 io_0) ?_
    refine c_X2_isHeld (rk_6_4 io_0) hG (by omega) (by omega) ?_
    rw [P.2.1 _ (by omega) (by omega)]
    refine s_if_eq (tgt := 98) dX8_thing_91 (by decide) (by first | exact hG.2 _ _ | exact b01_in _ | assumption | exact ⟨by omega, by omega⟩) (fun c3 => ?_) (fun c3 => ?_)
    · have c3 := b01_0.mp c3
      refine s_aload_n dX8_thing_98 rfl ?_
      refine s_getr dX8_thing_99 fl_X8_32 kl_6 (by decide) rfl io_0 (z := 4) rfl (rf_6_4 hG.1 io_0) (rk_6_4 io_0).1 ?_
      refine s_iload_n dX8_thing_102 rfl ?_
      refine s_callV (d' := d - 1) (bc' := 0) (bs' := 0) (as := [_]) dX8_thing_103 vf_X8_135 (dd_ (by omega) (by decide)) ⟨Nat.zero_le _, Nat.zero_le _⟩ rfl rfl (Nat.le_of_ble_eq_true rfl) kl_1 rfl (rk_6_4 io_0) ?_
      refine c_X2_brings (by omega) (rk_6_4 io_0) hG (by omega) (by omega) ?_
      rw [zbr_of P (by omega) (by omega)]
      have k9 := k t0 t1 (by omega) (by omega) h C fc
      refine s_ireturn dX8_thing_106 rfl ?_
      unfold zthing at k9
      first
        | (simp at k9; simpa using k9)
        | (simp at k9; rw [if_pos (by omega)] at k9; simpa using k9)
        | (simp at k9; rw [if_neg (by omega)] at k9; simpa using k9)
    · have c3 := b01_n.mp c3
      refine s_iconst dX8_thing_94 ?_
      refine s_goto (tgt := 106) dX8_thing_95 (by decide) ?_
      have k9 := k t0 t1 (by omega) (by omega) h C fc
      refine s_ireturn dX8_thing_106 rfl ?_
      unfold zthing at k9
      first
        | (simp at k9; simpa using k9)
        | (simp at k9; rw [if_pos (by omega)] at k9; simpa using k9)
        | (simp at k9; rw [if_neg (by omega)] at k9; simpa using k9)
  · refine s_tabIn (tgt := 107) dX8_thing_6 (by first | exact hG.2 _ _ | exact b01_in _ | assumption | exact ⟨by omega, by omega⟩) (by decide) (by decide) rfl (by decide) ?_
    refine s_aload_n dX8_thing_107 rfl ?_
    refine s_getr dX8_thing_108 fl_X8_32 kl_6 (by decide) rfl io_0 (z := 4) rfl (rf_6_4 hG.1 io_0) (rk_6_4 io_0).1 ?_
    refine s_iload_n dX8_thing_111 rfl ?_
    refine s_callV (d' := d - 1) (bc' := 0) (bs' := 0) (as := [_]) dX8_thing_112 vf_X8_135 (dd_ (by omega) (by decide)) ⟨Nat.zero_le _, Nat.zero_le _⟩ rfl rfl (Nat.le_of_ble_eq_true rfl) kl_1 rfl (rk_6_4 io_0) ?_
    refine c_X2_brings (by omega) (rk_6_4 io_0) hG (by omega) (by omega) ?_
    rw [zbr_of P (by omega) (by omega)]
    have k9 := k t0 t1 (by omega) (by omega) h C fc
    refine s_ireturn dX8_thing_115 rfl ?_
    unfold zthing at k9
    first
      | (simp at k9; simpa using k9)
      | (simp at k9; rw [if_pos (by omega)] at k9; simpa using k9)
      | (simp at k9; rw [if_neg (by omega)] at k9; simpa using k9)
  · refine s_tabOut (tgt := 116) dX8_thing_6 (by first | exact hG.2 _ _ | exact b01_in _ | assumption | exact ⟨by omega, by omega⟩) c1 (by decide) ?_
    refine s_throwN (w9 := 6) nh_0 dX8_thing_116 dX8_thing_119 (Or.inl ⟨rfl, dX8_thing_120⟩) dX8_thing_122 dX8_thing_125 ts_X8_138_140_142 (by omega) (by omega) (by omega) (Nat.le_of_ble_eq_true rfl) ?_
    exact k2 t0 t1 (by omega) h C fc
set_option maxRecDepth 100000 in
set_option maxHeartbeats 4000000 in
theorem c_X8_person {p v : Int} (hd : 10 ≤ d) (hbc : 8 ≤ bc) (hbs : 48 ≤ bs) (C : CR_ h z) (hp : inI p) (hv : inI v) (k : 0 ≤ p → p < z 0 1 → 0 ≤ v → v ≤ 5 → OK_ Q h z (zperson z p v)) (k1 : ¬ (0 ≤ p ∧ p < z 0 1) → TH_ Q h z IOB) (k2 : 0 ≤ p → p < z 0 1 → ¬ (0 ≤ v ∧ v ≤ 5) → TH_ Q h z vy_X) : Cl_ yX8_person MX8_person d bc bs [(2, 0), (0, p), (0, v)] nN h Q := by
  refine s_enter pn_X8 rfl (Nat.le_of_ble_eq_true rfl) (L := [(2, _), (0, _), (0, _)]) rfl ?_
  have hG := cr_g C
  have I := cr_i C
  obtain ⟨w, hw, W, hwf, P, CN⟩ := cr_w C
  have fc := FC.rf h
  have hT := I.2.1
  have hP := I.2.2.1
  have hN := I.2.2.2.1
  refine s_aload_n dX8_person_0 rfl ?_
  refine s_iload_n dX8_person_1 rfl ?_
  refine s_callV (d' := d - 1) (bc' := 1) (bs' := 6) (as := [_]) dX8_person_2 vf_X8_102 (dd_ (by omega) (by decide)) ⟨by omega, by omega⟩ rfl rfl (Nat.le_of_ble_eq_true rfl) kl_6 rfl io_0 ?_
  refine c_X8_checkPerson (by omega) (by omega) (by omega) C (by assumption) (fun p0 p1 => ?_) (fun e => k1 (by omega) h C (FC.rf h))
  have pp := P.2.2.1 p p0 p1
  refine s_iload_n dX8_person_5 rfl ?_
  rcases (by omega : v = 0 ∨ v = 1 ∨ v = 2 ∨ v = 3 ∨ v = 4 ∨ v = 5 ∨ (v < 0 ∨ 5 < v)) with rfl | rfl | rfl | rfl | rfl | rfl | c1
  · refine s_tabIn (tgt := 44) dX8_person_6 (by first | exact hG.2 _ _ | exact b01_in _ | assumption | exact ⟨by omega, by omega⟩) (by decide) (by decide) rfl (by decide) ?_
    refine s_aload_n dX8_person_44 rfl ?_
    refine s_getr dX8_person_45 fl_X8_25 kl_6 (by decide) rfl io_0 (z := 3) rfl (by first | exact hw | (simp (disch := omega) only [hs_same, hs_ne, fl_in, fl_ne, cp_inn, cp_nee]; exact hw)) (W).1 ?_
    refine s_getr dX8_person_48 fl_X8_145 kl_5 (by decide) rfl W (z := 4) rfl (rf_5_4 hG.1 W) (rk_5_4 W).1 ?_
    refine s_iload_n dX8_person_51 rfl ?_
    refine s_iaload dX8_person_52 (rk_5_4 W) (by omega) (by omega) ?_
    have k9 := k p0 p1 (by omega) (by omega) _ C fc
    refine s_ireturn dX8_person_53 rfl ?_
    unfold zperson at k9
    simp at k9
    rw [pp.1]
    exact k9
  · refine s_tabIn (tgt := 54) dX8_person_6 (by first | exact hG.2 _ _ | exact b01_in _ | assumption | exact ⟨by omega, by omega⟩) (by decide) (by decide) rfl (by decide) ?_
    refine s_aload_n dX8_person_54 rfl ?_
    refine s_getr dX8_person_55 fl_X8_25 kl_6 (by decide) rfl io_0 (z := 3) rfl (by first | exact hw | (simp (disch := omega) only [hs_same, hs_ne, fl_in, fl_ne, cp_inn, cp_nee]; exact hw)) (W).1 ?_
    refine s_getr dX8_person_58 fl_X8_149 kl_5 (by decide) rfl W (z := 5) rfl (rf_5_5 hG.1 W) (rk_5_5 W).1 ?_
    refine s_iload_n dX8_person_61 rfl ?_
    refine s_baload2 dX8_person_62 (rk_5_5 W) (by omega) (by omega) ?_
    refine s_if_eq (tgt := 70) dX8_person_63 (by decide) (by first | exact hG.2 _ _ | exact b01_in _ | assumption | exact ⟨by omega, by omega⟩) (fun c2 => ?_) (fun c2 => ?_)
    · refine s_iconst dX8_person_70 ?_
      have k9 := k p0 p1 (by omega) (by omega) _ C fc
      refine s_ireturn dX8_person_71 rfl ?_
      unfold zperson at k9
      simp at k9
      first
        | (rw [if_pos (by omega)] at k9; exact k9)
        | (rw [if_neg (by omega)] at k9; exact k9)
    · refine s_iconst dX8_person_66 ?_
      refine s_goto (tgt := 71) dX8_person_67 (by decide) ?_
      have k9 := k p0 p1 (by omega) (by omega) _ C fc
      refine s_ireturn dX8_person_71 rfl ?_
      unfold zperson at k9
      simp at k9
      first
        | (rw [if_pos (by omega)] at k9; exact k9)
        | (rw [if_neg (by omega)] at k9; exact k9)
  · refine s_tabIn (tgt := 72) dX8_person_6 (by first | exact hG.2 _ _ | exact b01_in _ | assumption | exact ⟨by omega, by omega⟩) (by decide) (by decide) rfl (by decide) ?_
    refine s_aload_n dX8_person_72 rfl ?_
    refine s_getr dX8_person_73 fl_X8_25 kl_6 (by decide) rfl io_0 (z := 3) rfl (by first | exact hw | (simp (disch := omega) only [hs_same, hs_ne, fl_in, fl_ne, cp_inn, cp_nee]; exact hw)) (W).1 ?_
    refine s_getr dX8_person_76 fl_X8_153 kl_5 (by decide) rfl W (z := 6) rfl (rf_5_6 hG.1 W) (rk_5_6 W).1 ?_
    refine s_iload_n dX8_person_79 rfl ?_
    refine s_baload2 dX8_person_80 (rk_5_6 W) (by omega) (by omega) ?_
    refine s_if_eq (tgt := 88) dX8_person_81 (by decide) (by first | exact hG.2 _ _ | exact b01_in _ | assumption | exact ⟨by omega, by omega⟩) (fun c3 => ?_) (fun c3 => ?_)
    · refine s_iconst dX8_person_88 ?_
      have k9 := k p0 p1 (by omega) (by omega) _ C fc
      refine s_ireturn dX8_person_89 rfl ?_
      unfold zperson at k9
      simp at k9
      first
        | (rw [if_pos (by omega)] at k9; exact k9)
        | (rw [if_neg (by omega)] at k9; exact k9)
    · refine s_iconst dX8_person_84 ?_
      refine s_goto (tgt := 89) dX8_person_85 (by decide) ?_
      have k9 := k p0 p1 (by omega) (by omega) _ C fc
      refine s_ireturn dX8_person_89 rfl ?_
      unfold zperson at k9
      simp at k9
      first
        | (rw [if_pos (by omega)] at k9; exact k9)
        | (rw [if_neg (by omega)] at k9; exact k9)
  · refine s_tabIn (tgt := 90) dX8_person_6 (by first | exact hG.2 _ _ | exact b01_in _ | assumption | exact ⟨by omega, by omega⟩) (by decide) (by decide) rfl (by decide) ?_
    refine s_aload_n dX8_person_90 rfl ?_
    refine s_getr dX8_person_91 fl_X8_32 kl_6 (by decide) rfl io_0 (z := 4) rfl (rf_6_4 hG.1 io_0) (rk_6_4 io_0).1 ?_
    refine s_iload_n dX8_person_94 rfl ?_
    refine s_callV (d' := d - 1) (bc' := 0) (bs' := 0) (as := [_]) dX8_person_95 vf_X8_156 (dd_ (by omega) (by decide)) ⟨Nat.zero_le _, Nat.zero_le _⟩ rfl rfl (Nat.le_of_ble_eq_true rfl) kl_1 rfl (rk_6_4 io_0) ?_
    refine c_X2_isDead (rk_6_4 io_0) hG (by omega) (by omega) ?_
    rw [P.2.1 _ (by omega) (by omega)]
    refine s_if_eq (tgt := 105) dX8_person_98 (by decide) (by first | exact hG.2 _ _ | exact b01_in _ | assumption | exact ⟨by omega, by omega⟩) (fun c4 => ?_) (fun c4 => ?_)
    · have c4 := b01_0.mp c4
      refine s_iconst dX8_person_105 ?_
      have k9 := k p0 p1 (by omega) (by omega) _ C fc
      refine s_ireturn dX8_person_106 rfl ?_
      unfold zperson at k9
      simp at k9
      first
        | (rw [if_pos (by omega)] at k9; exact k9)
        | (rw [if_neg (by omega)] at k9; exact k9)
    · have c4 := b01_n.mp c4
      refine s_iconst dX8_person_101 ?_
      refine s_goto (tgt := 106) dX8_person_102 (by decide) ?_
      have k9 := k p0 p1 (by omega) (by omega) _ C fc
      refine s_ireturn dX8_person_106 rfl ?_
      unfold zperson at k9
      simp at k9
      first
        | (rw [if_pos (by omega)] at k9; exact k9)
        | (rw [if_neg (by omega)] at k9; exact k9)
  · refine s_tabIn (tgt := 107) dX8_person_6 (by first | exact hG.2 _ _ | exact b01_in _ | assumption | exact ⟨by omega, by omega⟩) (by decide) (by decide) rfl (by decide) ?_
    refine s_aload_n dX8_person_107 rfl ?_
    refine s_callV (d' := d - 1) (bc' := 0) (bs' := 0) (as := []) dX8_person_108 vf_X8_159 (dd_ (by omega) (by decide)) ⟨Nat.zero_le _, Nat.zero_le _⟩ rfl rfl (Nat.le_of_ble_eq_true rfl) kl_6 rfl io_0 ?_
    refine c_X8_reckoning (by omega) C (fun hh hG1 C st fc2 => ?_)
    have fc := fc.tr fc2
    obtain ⟨w, hw, W, hwf, P, CN⟩ := cr_w C
    have RD := cr_rd C st
    have hr := cr_rw C st hw
    have eN := P.1.2.2
    have ll := RD.1 p p0 p1
    refine s_getr dX8_person_111 fl_X8_163 kl_4 (by decide) rfl (rk_6_6 io_0) (z := 0) rfl (rf_4_0 hG1.1 (rk_6_6 io_0)) (rk_4_0 (rk_6_6 io_0)).1 ?_
    refine s_iload_n dX8_person_114 rfl ?_
    refine s_iaload dX8_person_115 (rk_4_0 (rk_6_6 io_0)) (by omega) (by omega) ?_
    try simp (disch := omega) only [hs_same, hs_ne, fl_in, fl_ne, cp_inn, cp_nee]
    refine s_if_ne (tgt := 123) dX8_person_116 (by decide) (by first | exact hG1.2 _ _ | exact hG.2 _ _ | exact b01_in _ | assumption | exact ⟨by omega, by omega⟩) (fun c5 => ?_) (fun c5 => ?_)
    · refine s_iconst dX8_person_123 ?_
      have k9 := k p0 p1 (by omega) (by omega) _ C fc
      refine s_ireturn dX8_person_124 rfl ?_
      unfold zperson at k9
      simp at k9
      first
        | (rw [if_pos (by omega)] at k9; exact k9)
        | (rw [if_neg (by omega)] at k9; exact k9)
    · refine s_iconst dX8_person_119 ?_
      refine s_goto (tgt := 124) dX8_person_120 (by decide) ?_
      have k9 := k p0 p1 (by omega) (by omega) _ C fc
      refine s_ireturn dX8_person_124 rfl ?_
      unfold zperson at k9
      simp at k9
      first
        | (rw [if_pos (by omega)] at k9; exact k9)
        | (rw [if_neg (by omega)] at k9; exact k9)
  · refine s_tabIn (tgt := 125) dX8_person_6 (by first | exact hG.2 _ _ | exact b01_in _ | assumption | exact ⟨by omega, by omega⟩) (by decide) (by decide) rfl (by decide) ?_
    refine s_aload_n dX8_person_125 rfl ?_
    refine s_callV (d' := d - 1) (bc' := 0) (bs' := 0) (as := []) dX8_person_126 vf_X8_159 (dd_ (by omega) (by decide)) ⟨Nat.zero_le _, Nat.zero_le _⟩ rfl rfl (Nat.le_of_ble_eq_true rfl) kl_6 rfl io_0 ?_
    refine c_X8_reckoning (by omega) C (fun hh hG2 C st fc2 => ?_)
    have fc := fc.tr fc2
    obtain ⟨w, hw, W, hwf, P, CN⟩ := cr_w C
    have RD := cr_rd C st
    have hr := cr_rw C st hw
    have eN := P.1.2.2
    have ll := RD.1 p p0 p1
    refine s_getr dX8_person_129 fl_X8_163 kl_4 (by decide) rfl (rk_6_6 io_0) (z := 0) rfl (rf_4_0 hG2.1 (rk_6_6 io_0)) (rk_4_0 (rk_6_6 io_0)).1 ?_
    refine s_iload_n dX8_person_132 rfl ?_
    refine s_iaload dX8_person_133 (rk_4_0 (rk_6_6 io_0)) (by omega) (by omega) ?_
    try simp (disch := omega) only [hs_same, hs_ne, fl_in, fl_ne, cp_inn, cp_nee]
    have k9 := k p0 p1 (by omega) (by omega) _ C fc
    refine s_ireturn dX8_person_134 rfl ?_
    unfold zperson at k9
    simp at k9
    rw [ll]
    exact k9
  · refine s_tabOut (tgt := 135) dX8_person_6 (by first | exact hG.2 _ _ | exact b01_in _ | assumption | exact ⟨by omega, by omega⟩) c1 (by decide) ?_
    refine s_throwN (w9 := 6) nh_0 dX8_person_135 dX8_person_138 (Or.inl ⟨rfl, dX8_person_139⟩) dX8_person_141 dX8_person_144 ts_X8_138_166_142 (by omega) (by omega) (by omega) (Nat.le_of_ble_eq_true rfl) ?_
    exact k2 p0 p1 (by omega) h C fc
set_option maxRecDepth 100000 in
set_option maxHeartbeats 4000000 in
theorem c_X8_ademption {g : Int} (hd : 4 ≤ d) (C : CR_ h z) (g0 : 0 ≤ g) (g1 : g < z 0 2) (k : Q.1 (some (0, zad z g)) nN h) : Cl_ yX8_ademption MX8_ademption d bc bs [(2, 0), (0, g)] nN h Q := by
  refine s_enter pn_X8 rfl (Nat.le_of_ble_eq_true rfl) (L := [(2, _), (0, _)]) rfl ?_
  have hG := cr_g C
  have I := cr_i C
  obtain ⟨w, hw, W, hwf, P, CN⟩ := cr_w C
  have fc := FC.rf h
  have hT := I.2.1
  have hP := I.2.2.1
  have hN := I.2.2.2.1
  have gg := P.2.2.2 g g0 g1
  have ht := (I.2.2.2.2.2 g g0 g1).2.2.1
  have e7 := gg.2.2.1
  refine s_aload_n dX8_ademption_0 rfl ?_
  refine s_getr dX8_ademption_1 fl_X8_25 kl_6 (by decide) rfl io_0 (z := 3) rfl (by first | exact hw | (simp (disch := omega) only [hs_same, hs_ne, fl_in, fl_ne, cp_inn, cp_nee]; exact hw)) (W).1 ?_
  refine s_getr dX8_ademption_4 fl_X8_171 kl_5 (by decide) rfl W (z := 8) rfl (rf_5_8 hG.1 W) (rk_5_8 W).1 ?_
  refine s_iload_n dX8_ademption_7 rfl ?_
  refine s_iaload dX8_ademption_8 (rk_5_8 W) (by omega) (by omega) ?_
  refine s_if_ne (tgt := 31) dX8_ademption_9 (by decide) (by first | exact hG.2 _ _ | exact b01_in _ | assumption | exact ⟨by omega, by omega⟩) (fun c1 => ?_) (fun c1 => ?_)
  · refine s_iconst dX8_ademption_31 ?_
    refine s_ireturn dX8_ademption_32 rfl ?_
    unfold zad at k
    first
      | (rw [if_pos (by omega)] at k; exact k)
      | (rw [if_neg (by omega), if_pos (by omega)] at k; exact k)
      | (rw [if_neg (by omega), if_neg (by omega)] at k; exact k)
  · refine s_aload_n dX8_ademption_12 rfl ?_
    refine s_getr dX8_ademption_13 fl_X8_32 kl_6 (by decide) rfl io_0 (z := 4) rfl (rf_6_4 hG.1 io_0) (rk_6_4 io_0).1 ?_
    refine s_aload_n dX8_ademption_16 rfl ?_
    refine s_getr dX8_ademption_17 fl_X8_25 kl_6 (by decide) rfl io_0 (z := 3) rfl (by first | exact hw | (simp (disch := omega) only [hs_same, hs_ne, fl_in, fl_ne, cp_inn, cp_nee]; exact hw)) (W).1 ?_
    refine s_getr dX8_ademption_20 fl_X8_177 kl_5 (by decide) rfl W (z := 10) rfl (rf_5_10 hG.1 W) (rk_5_10 W).1 ?_
    refine s_iload_n dX8_ademption_23 rfl ?_
    refine s_iaload dX8_ademption_24 (rk_5_10 W) (by omega) (by omega) ?_
    refine s_callV (d' := d - 1) (bc' := 0) (bs' := 0) (as := [_]) dX8_ademption_25 vf_X8_131 (dd_ (by omega) (by decide)) ⟨Nat.zero_le _, Nat.zero_le _⟩ rfl rfl (Nat.le_of_ble_eq_true rfl) kl_1 rfl (rk_6_4 io_0) ?_
    refine c_X2_isHeld (rk_6_4 io_0) hG (by omega) (by omega) ?_
    rw [e7, P.2.1 _ (by omega) (by omega)]
    refine s_if_eq (tgt := 33) dX8_ademption_28 (by decide) (by first | exact hG.2 _ _ | exact b01_in _ | assumption | exact ⟨by omega, by omega⟩) (fun c2 => ?_) (fun c2 => ?_)
    · have c2 := b01_0.mp c2
      refine s_aload_n dX8_ademption_33 rfl ?_
      refine s_getr dX8_ademption_34 fl_X8_32 kl_6 (by decide) rfl io_0 (z := 4) rfl (rf_6_4 hG.1 io_0) (rk_6_4 io_0).1 ?_
      refine s_aload_n dX8_ademption_37 rfl ?_
      refine s_getr dX8_ademption_38 fl_X8_25 kl_6 (by decide) rfl io_0 (z := 3) rfl (by first | exact hw | (simp (disch := omega) only [hs_same, hs_ne, fl_in, fl_ne, cp_inn, cp_nee]; exact hw)) (W).1 ?_
      refine s_getr dX8_ademption_41 fl_X8_177 kl_5 (by decide) rfl W (z := 10) rfl (rf_5_10 hG.1 W) (rk_5_10 W).1 ?_
      refine s_iload_n dX8_ademption_44 rfl ?_
      refine s_iaload dX8_ademption_45 (rk_5_10 W) (by omega) (by omega) ?_
      refine s_callV (d' := d - 1) (bc' := 0) (bs' := 0) (as := [_]) dX8_ademption_46 vf_X8_135 (dd_ (by omega) (by decide)) ⟨Nat.zero_le _, Nat.zero_le _⟩ rfl rfl (Nat.le_of_ble_eq_true rfl) kl_1 rfl (rk_6_4 io_0) ?_
      refine c_X2_brings (by omega) (rk_6_4 io_0) hG (by omega) (by omega) ?_
      have bb := zbr_bd I.1 (t := z 7 g) (by omega) (by omega)
      rw [e7, zbr_of P (by omega) (by omega)]
      refine s_if_ne (tgt := 56) dX8_ademption_49 (by decide) (by first | exact hG.2 _ _ | exact b01_in _ | assumption | exact ⟨by omega, by omega⟩) (fun c3 => ?_) (fun c3 => ?_)
      · refine s_iconst dX8_ademption_56 ?_
        refine s_ireturn dX8_ademption_57 rfl ?_
        unfold zad at k
        first
          | (rw [if_pos (by omega)] at k; exact k)
          | (rw [if_neg (by omega), if_pos (by omega)] at k; exact k)
          | (rw [if_neg (by omega), if_neg (by omega)] at k; exact k)
      · refine s_iconst dX8_ademption_52 ?_
        refine s_goto (tgt := 57) dX8_ademption_53 (by decide) ?_
        refine s_ireturn dX8_ademption_57 rfl ?_
        unfold zad at k
        first
          | (rw [if_pos (by omega)] at k; exact k)
          | (rw [if_neg (by omega), if_pos (by omega)] at k; exact k)
          | (rw [if_neg (by omega), if_neg (by omega)] at k; exact k)
    · have c2 := b01_n.mp c2
      refine s_iconst dX8_ademption_31 ?_
      refine s_ireturn dX8_ademption_32 rfl ?_
      unfold zad at k
      first
        | (rw [if_pos (by omega)] at k; exact k)
        | (rw [if_neg (by omega), if_pos (by omega)] at k; exact k)
        | (rw [if_neg (by omega), if_neg (by omega)] at k; exact k)
set_option maxRecDepth 100000 in
set_option maxHeartbeats 4000000 in
theorem c_X8_gift {g v : Int} (hd : 10 ≤ d) (hbc : 8 ≤ bc) (hbs : 48 ≤ bs) (C : CR_ h z) (hg : inI g) (hv : inI v) (k : 0 ≤ g → g < z 0 2 → 0 ≤ v → v ≤ 6 → OK_ Q h z (zgift z g v)) (k1 : ¬ (0 ≤ g ∧ g < z 0 2) → TH_ Q h z IOB) (k2 : 0 ≤ g → g < z 0 2 → ¬ (0 ≤ v ∧ v ≤ 6) → TH_ Q h z vy_X) : Cl_ yX8_gift MX8_gift d bc bs [(2, 0), (0, g), (0, v)] nN h Q := by
  refine s_enter pn_X8 rfl (Nat.le_of_ble_eq_true rfl) (L := [(2, _), (0, _), (0, _)]) rfl ?_
  have hG := cr_g C
  have I := cr_i C
  obtain ⟨w, hw, W, hwf, P, CN⟩ := cr_w C
  have fc := FC.rf h
  have hT := I.2.1
  have hP := I.2.2.1
  have hN := I.2.2.2.1
  refine s_aload_n dX8_gift_0 rfl ?_
  refine s_iload_n dX8_gift_1 rfl ?_
  refine s_callV (d' := d - 1) (bc' := 1) (bs' := 6) (as := [_]) dX8_gift_2 vf_X8_168 (dd_ (by omega) (by decide)) ⟨by omega, by omega⟩ rfl rfl (Nat.le_of_ble_eq_true rfl) kl_6 rfl io_0 ?_
  refine c_X8_checkGift (by omega) (by omega) (by omega) C (by assumption) (fun g0 g1 => ?_) (fun e => k1 (by omega) h C (FC.rf h))
  have gg := P.2.2.2 g g0 g1
  refine s_iload_n dX8_gift_5 rfl ?_
  rcases (by omega : v = 0 ∨ v = 1 ∨ v = 2 ∨ v = 3 ∨ v = 4 ∨ v = 5 ∨ v = 6 ∨ (v < 0 ∨ 6 < v)) with rfl | rfl | rfl | rfl | rfl | rfl | rfl | c1
  · refine s_tabIn (tgt := 48) dX8_gift_6 (by first | exact hG.2 _ _ | exact b01_in _ | assumption | exact ⟨by omega, by omega⟩) (by decide) (by decide) rfl (by decide) ?_
    refine s_aload_n dX8_gift_48 rfl ?_
    refine s_getr dX8_gift_49 fl_X8_25 kl_6 (by decide) rfl io_0 (z := 3) rfl (by first | exact hw | (simp (disch := omega) only [hs_same, hs_ne, fl_in, fl_ne, cp_inn, cp_nee]; exact hw)) (W).1 ?_
    refine s_getr dX8_gift_52 fl_X8_171 kl_5 (by decide) rfl W (z := 8) rfl (rf_5_8 hG.1 W) (rk_5_8 W).1 ?_
    refine s_iload_n dX8_gift_55 rfl ?_
    refine s_iaload dX8_gift_56 (rk_5_8 W) (by omega) (by omega) ?_
    have k9 := k g0 g1 (by omega) (by omega) _ C fc
    refine s_ireturn dX8_gift_57 rfl ?_
    unfold zgift at k9
    simp at k9
    rw [gg.1]
    exact k9
  · refine s_tabIn (tgt := 58) dX8_gift_6 (by first | exact hG.2 _ _ | exact b01_in _ | assumption | exact ⟨by omega, by omega⟩) (by decide) (by decide) rfl (by decide) ?_
    refine s_aload_n dX8_gift_58 rfl ?_
    refine s_getr dX8_gift_59 fl_X8_25 kl_6 (by decide) rfl io_0 (z := 3) rfl (by first | exact hw | (simp (disch := omega) only [hs_same, hs_ne, fl_in, fl_ne, cp_inn, cp_nee]; exact hw)) (W).1 ?_
    refine s_getr dX8_gift_62 fl_X8_174 kl_5 (by decide) rfl W (z := 9) rfl (rf_5_9 hG.1 W) (rk_5_9 W).1 ?_
    refine s_iload_n dX8_gift_65 rfl ?_
    refine s_iaload dX8_gift_66 (rk_5_9 W) (by omega) (by omega) ?_
    have k9 := k g0 g1 (by omega) (by omega) _ C fc
    refine s_ireturn dX8_gift_67 rfl ?_
    unfold zgift at k9
    simp at k9
    rw [gg.2.1]
    exact k9
  · refine s_tabIn (tgt := 68) dX8_gift_6 (by first | exact hG.2 _ _ | exact b01_in _ | assumption | exact ⟨by omega, by omega⟩) (by decide) (by decide) rfl (by decide) ?_
    refine s_aload_n dX8_gift_68 rfl ?_
    refine s_getr dX8_gift_69 fl_X8_25 kl_6 (by decide) rfl io_0 (z := 3) rfl (by first | exact hw | (simp (disch := omega) only [hs_same, hs_ne, fl_in, fl_ne, cp_inn, cp_nee]; exact hw)) (W).1 ?_
    refine s_getr dX8_gift_72 fl_X8_177 kl_5 (by decide) rfl W (z := 10) rfl (rf_5_10 hG.1 W) (rk_5_10 W).1 ?_
    refine s_iload_n dX8_gift_75 rfl ?_
    refine s_iaload dX8_gift_76 (rk_5_10 W) (by omega) (by omega) ?_
    have k9 := k g0 g1 (by omega) (by omega) _ C fc
    refine s_ireturn dX8_gift_77 rfl ?_
    unfold zgift at k9
    simp at k9
    rw [gg.2.2.1]
    exact k9
  · refine s_tabIn (tgt := 78) dX8_gift_6 (by first | exact hG.2 _ _ | exact b01_in _ | assumption | exact ⟨by omega, by omega⟩) (by decide) (by decide) rfl (by decide) ?_
    refine s_aload_n dX8_gift_78 rfl ?_
    refine s_getr dX8_gift_79 fl_X8_25 kl_6 (by decide) rfl io_0 (z := 3) rfl (by first | exact hw | (simp (disch := omega) only [hs_same, hs_ne, fl_in, fl_ne, cp_inn, cp_nee]; exact hw)) (W).1 ?_
    refine s_getr dX8_gift_82 fl_X8_180 kl_5 (by decide) rfl W (z := 11) rfl (rf_5_11 hG.1 W) (rk_5_11 W).1 ?_
    refine s_iload_n dX8_gift_85 rfl ?_
    refine s_iaload dX8_gift_86 (rk_5_11 W) (by omega) (by omega) ?_
    have k9 := k g0 g1 (by omega) (by omega) _ C fc
    refine s_ireturn dX8_gift_87 rfl ?_
    unfold zgift at k9
    simp at k9
    rw [gg.2.2.2.1]
    exact k9
  · refine s_tabIn (tgt := 88) dX8_gift_6 (by first | exact hG.2 _ _ | exact b01_in _ | assumption | exact ⟨by omega, by omega⟩) (by decide) (by decide) rfl (by decide) ?_
    refine s_aload_n dX8_gift_88 rfl ?_
    refine s_getr dX8_gift_89 fl_X8_25 kl_6 (by decide) rfl io_0 (z := 3) rfl (by first | exact hw | (simp (disch := omega) only [hs_same, hs_ne, fl_in, fl_ne, cp_inn, cp_nee]; exact hw)) (W).1 ?_
    refine s_getr dX8_gift_92 fl_X8_183 kl_5 (by decide) rfl W (z := 12) rfl (rf_5_12 hG.1 W) (rk_5_12 W).1 ?_
    refine s_iload_n dX8_gift_95 rfl ?_
    refine s_iaload dX8_gift_96 (rk_5_12 W) (by omega) (by omega) ?_
    have k9 := k g0 g1 (by omega) (by omega) _ C fc
    refine s_ireturn dX8_gift_97 rfl ?_
    unfold zgift at k9
    simp at k9
    rw [gg.2.2.2.2]
    exact k9
  · refine s_tabIn (tgt := 98) dX8_gift_6 (by first | exact hG.2 _ _ | exact b01_in _ | assumption | exact ⟨by omega, by omega⟩) (by decide) (by decide) rfl (by decide) ?_
    refine s_aload_n dX8_gift_98 rfl ?_
    refine s_callV (d' := d - 1) (bc' := 0) (bs' := 0) (as := []) dX8_gift_99 vf_X8_159 (dd_ (by omega) (by decide)) ⟨Nat.zero_le _, Nat.zero_le _⟩ rfl rfl (Nat.le_of_ble_eq_true rfl) kl_6 rfl io_0 ?_
    refine c_X8_reckoning (by omega) C (fun hh hG1 C st fc2 => ?_)
    have fc := fc.tr fc2
    obtain ⟨w, hw, W, hwf, P, CN⟩ := cr_w C
    have RD := cr_rd C st
    have hr := cr_rw C st hw
    have eN := P.1.2.2
    have ll := RD.2.1 g g0 g1
    refine s_getr dX8_gift_102 fl_X8_186 kl_4 (by decide) rfl (rk_6_6 io_0) (z := 1) rfl (rf_4_1 hG1.1 (rk_6_6 io_0)) (rk_4_1 (rk_6_6 io_0)).1 ?_
    refine s_iload_n dX8_gift_105 rfl ?_
    refine s_baload2 dX8_gift_106 (rk_4_1 (rk_6_6 io_0)) (by omega) (by omega) ?_
    try simp (disch := omega) only [hs_same, hs_ne, fl_in, fl_ne, cp_inn, cp_nee]
    refine s_if_eq (tgt := 114) dX8_gift_107 (by decide) (by first | exact hG1.2 _ _ | exact hG.2 _ _ | exact b01_in _ | assumption | exact ⟨by omega, by omega⟩) (fun c2 => ?_) (fun c2 => ?_)
    · refine s_iconst dX8_gift_114 ?_
      have k9 := k g0 g1 (by omega) (by omega) _ C fc
      refine s_ireturn dX8_gift_115 rfl ?_
      unfold zgift at k9
      simp at k9
      first
        | (rw [if_pos (by omega)] at k9; exact k9)
        | (rw [if_neg (by omega)] at k9; exact k9)
    · refine s_iconst dX8_gift_110 ?_
      refine s_goto (tgt := 115) dX8_gift_111 (by decide) ?_
      have k9 := k g0 g1 (by omega) (by omega) _ C fc
      refine s_ireturn dX8_gift_115 rfl ?_
      unfold zgift at k9
      simp at k9
      first
        | (rw [if_pos (by omega)] at k9; exact k9)
        | (rw [if_neg (by omega)] at k9; exact k9)
  · refine s_tabIn (tgt := 116) dX8_gift_6 (by first | exact hG.2 _ _ | exact b01_in _ | assumption | exact ⟨by omega, by omega⟩) (by decide) (by decide) rfl (by decide) ?_
    refine s_aload_n dX8_gift_116 rfl ?_
    refine s_iload_n dX8_gift_117 rfl ?_
    refine s_callV (d' := d - 1) (bc' := 0) (bs' := 0) (as := [_]) dX8_gift_118 vf_X8_189 (dd_ (by omega) (by decide)) ⟨Nat.zero_le _, Nat.zero_le _⟩ rfl rfl (Nat.le_of_ble_eq_true rfl) kl_6 rfl io_0 ?_
    refine c_X8_ademption (by omega) C g0 g1 ?_
    have k9 := k g0 g1 (by omega) (by omega) _ C fc
    refine s_ireturn dX8_gift_121 rfl ?_
    unfold zgift at k9
    simp at k9
    exact k9
  · refine s_tabOut (tgt := 122) dX8_gift_6 (by first | exact hG.2 _ _ | exact b01_in _ | assumption | exact ⟨by omega, by omega⟩) c1 (by decide) ?_
    refine s_throwN (w9 := 6) nh_0 dX8_gift_122 dX8_gift_125 (Or.inl ⟨rfl, dX8_gift_126⟩) dX8_gift_128 dX8_gift_131 ts_X8_138_192_142 (by omega) (by omega) (by omega) (Nat.le_of_ble_eq_true rfl) ?_
    exact k2 g0 g1 (by omega) h C fc
set_option maxRecDepth 100000 in
set_option maxHeartbeats 4000000 in
theorem c_X8_due {g c : Int} (hd : 10 ≤ d) (hbc : 8 ≤ bc) (hbs : 48 ≤ bs) (C : CR_ h z) (hg : inI g) (hc : inI c) (k : 0 ≤ g → g < z 0 2 → 0 ≤ c → c ≤ 6 → OK_ Q h z (zde z g c)) (k1 : ¬ (0 ≤ g ∧ g < z 0 2) → TH_ Q h z IOB) (k2 : 0 ≤ g → g < z 0 2 → ¬ (0 ≤ c ∧ c ≤ 6) → TH_ Q h z IAE) : Cl_ yX8_due MX8_due d bc bs [(2, 0), (0, g), (0, c)] nN h Q := by
  refine s_enter pn_X8 rfl (Nat.le_of_ble_eq_true rfl) (L := [(2, _), (0, _), (0, _)]) rfl ?_
  have hG := cr_g C
  have I := cr_i C
  obtain ⟨w, hw, W, hwf, P, CN⟩ := cr_w C
  have fc := FC.rf h
  have hT := I.2.1
  have hP := I.2.2.1
  have hN := I.2.2.2.1
  refine s_aload_n dX8_due_0 rfl ?_
  refine s_iload_n dX8_due_1 rfl ?_
  refine s_callV (d' := d - 1) (bc' := 1) (bs' := 6) (as := [_]) dX8_due_2 vf_X8_168 (dd_ (by omega) (by decide)) ⟨by omega, by omega⟩ rfl rfl (Nat.le_of_ble_eq_true rfl) kl_6 rfl io_0 ?_
  refine c_X8_checkGift (by omega) (by omega) (by omega) C (by assumption) (fun g0 g1 => ?_) (fun e => k1 (by omega) h C (FC.rf h))
  refine s_aload_n dX8_due_5 rfl ?_
  refine s_iload_n dX8_due_6 rfl ?_
  refine s_bipush dX8_due_7 (by decide) ?_
  refine s_callV (d' := d - 1) (bc' := 1) (bs' := 6) (as := [_, _]) dX8_due_9 vf_X8_285 (dd_ (by omega) (by decide)) ⟨by omega, by omega⟩ rfl rfl (Nat.le_of_ble_eq_true rfl) kl_6 rfl io_0 ?_
  refine c_X8_checkClass (by omega) (by omega) (by omega) hG (by assumption) ⟨by omega, by omega⟩ (fun c0 c1 => ?_) (fun e => k2 g0 g1 (by omega) _ C fc)
  refine s_aload_n dX8_due_12 rfl ?_
  refine s_callV (d' := d - 1) (bc' := 0) (bs' := 0) (as := []) dX8_due_13 vf_X8_159 (dd_ (by omega) (by decide)) ⟨Nat.zero_le _, Nat.zero_le _⟩ rfl rfl (Nat.le_of_ble_eq_true rfl) kl_6 rfl io_0 ?_
  refine c_X8_reckoning (by omega) C (fun hh hG1 C st fc2 => ?_)
  have fc := fc.tr fc2
  obtain ⟨w, hw, W, hwf, P, CN⟩ := cr_w C
  have RD := cr_rd C st
  have hr := cr_rw C st hw
  have eN := P.1.2.2
  refine s_getr dX8_due_16 fl_X8_288 kl_4 (by decide) rfl (rk_6_6 io_0) (z := 3) rfl (rf_4_3 hG1.1 (rk_6_6 io_0)) (rk_4_3 (rk_6_6 io_0)).1 ?_
  refine s_iload_n dX8_due_19 rfl ?_
  refine s_aaload4 dX8_due_20 (rk_4_3 (rk_6_6 io_0)) (by omega) (by omega) (rw_4_3 hG1.1 (rk_6_6 io_0) (by omega) (by omega)) (rx_4_3 (rk_6_6 io_0) (by omega) (by omega)).1 ?_
  refine s_iload_n dX8_due_21 rfl ?_
  refine s_iaload dX8_due_22 (rx_4_3 (rk_6_6 io_0) (by omega) (by omega)) (by omega) (by omega) ?_
  try simp (disch := omega) only [hs_same, hs_ne, fl_in, fl_ne, cp_inn, cp_nee]
  refine s_ireturn dX8_due_23 rfl ?_
  have e9 := (RD.2.2.2.1 g c g0 g1 c0 (by omega)).1
  first | rw [e9] | (rw [show (0 + 99 + 3 + 1 + g : Int) = 0 + 99 + 4 + 1 + g - 1 by omega] at *)
  exact k g0 g1 c0 c1 _ C fc
set_option maxRecDepth 100000 in
set_option maxHeartbeats 4000000 in
theorem c_X8_gets {g c : Int} (hd : 10 ≤ d) (hbc : 8 ≤ bc) (hbs : 48 ≤ bs) (C : CR_ h z) (hg : inI g) (hc : inI c) (k : 0 ≤ g → g < z 0 2 → -1 ≤ c → c ≤ 6 → OK_ Q h z (zgets z g c)) (k1 : ¬ (0 ≤ g ∧ g < z 0 2) → TH_ Q h z IOB) (k2 : 0 ≤ g → g < z 0 2 → ¬ (-1 ≤ c ∧ c ≤ 6) → TH_ Q h z IAE) : Cl_ yX8_gets MX8_gets d bc bs [(2, 0), (0, g), (0, c)] nN h Q := by
  refine s_enter pn_X8 rfl (Nat.le_of_ble_eq_true rfl) (L := [(2, _), (0, _), (0, _)]) rfl ?_
  have hG := cr_g C
  have I := cr_i C
  obtain ⟨w, hw, W, hwf, P, CN⟩ := cr_w C
  have fc := FC.rf h
  have hT := I.2.1
  have hP := I.2.2.1
  have hN := I.2.2.2.1
  refine s_aload_n dX8_gets_0 rfl ?_
  refine s_iload_n dX8_gets_1 rfl ?_
  refine s_callV (d' := d - 1) (bc' := 1) (bs' := 6) (as := [_]) dX8_gets_2 vf_X8_168 (dd_ (by omega) (by decide)) ⟨by omega, by omega⟩ rfl rfl (Nat.le_of_ble_eq_true rfl) kl_6 rfl io_0 ?_
  refine c_X8_checkGift (by omega) (by omega) (by omega) C (by assumption) (fun g0 g1 => ?_) (fun e => k1 (by omega) h C (FC.rf h))
  refine s_iload_n dX8_gets_5 rfl ?_
  refine s_iconst dX8_gets_6 ?_
  refine s_icmp_ne (tgt := 22) dX8_gets_7 (by decide) (by first | exact hG.2 _ _ | exact b01_in _ | assumption | exact ⟨by omega, by omega⟩) (by first | exact hG.2 _ _ | exact b01_in _ | assumption | exact ⟨by omega, by omega⟩) (fun c1 => ?_) (fun c1 => ?_)
  · refine s_aload_n dX8_gets_22 rfl ?_
    refine s_iload_n dX8_gets_23 rfl ?_
    refine s_bipush dX8_gets_24 (by decide) ?_
    refine s_callV (d' := d - 1) (bc' := 1) (bs' := 6) (as := [_, _]) dX8_gets_26 vf_X8_285 (dd_ (by omega) (by decide)) ⟨by omega, by omega⟩ rfl rfl (Nat.le_of_ble_eq_true rfl) kl_6 rfl io_0 ?_
    refine c_X8_checkClass (by omega) (by omega) (by omega) hG (by assumption) ⟨by omega, by omega⟩ (fun c0 c1 => ?_) (fun e => k2 g0 g1 (by omega) _ C fc)
    refine s_aload_n dX8_gets_29 rfl ?_
    refine s_callV (d' := d - 1) (bc' := 0) (bs' := 0) (as := []) dX8_gets_30 vf_X8_159 (dd_ (by omega) (by decide)) ⟨Nat.zero_le _, Nat.zero_le _⟩ rfl rfl (Nat.le_of_ble_eq_true rfl) kl_6 rfl io_0 ?_
    refine c_X8_reckoning (by omega) C (fun hh hG1 C st fc2 => ?_)
    have fc := fc.tr fc2
    obtain ⟨w, hw, W, hwf, P, CN⟩ := cr_w C
    have RD := cr_rd C st
    have hr := cr_rw C st hw
    have eN := P.1.2.2
    refine s_getr dX8_gets_33 fl_X8_296 kl_4 (by decide) rfl (rk_6_6 io_0) (z := 4) rfl (rf_4_4 hG1.1 (rk_6_6 io_0)) (rk_4_4 (rk_6_6 io_0)).1 ?_
    refine s_iload_n dX8_gets_36 rfl ?_
    refine s_aaload4 dX8_gets_37 (rk_4_4 (rk_6_6 io_0)) (by omega) (by omega) (rw_4_4 hG1.1 (rk_6_6 io_0) (by omega) (by omega)) (rx_4_4 (rk_6_6 io_0) (by omega) (by omega)).1 ?_
    refine s_iload_n dX8_gets_38 rfl ?_
    refine s_iaload dX8_gets_39 (rx_4_4 (rk_6_6 io_0) (by omega) (by omega)) (by omega) (by omega) ?_
    try simp (disch := omega) only [hs_same, hs_ne, fl_in, fl_ne, cp_inn, cp_nee]
    have k9 := k g0 g1 (by omega) (by omega) _ C fc
    unfold zgets at k9
    rw [if_neg (by omega)] at k9
    refine s_ireturn dX8_gets_40 rfl ?_
    rw [(RD.2.2.2.1 g c g0 g1 c0 (by omega)).2]
    exact k9
  · refine s_aload_n dX8_gets_10 rfl ?_
    refine s_callV (d' := d - 1) (bc' := 0) (bs' := 0) (as := []) dX8_gets_11 vf_X8_159 (dd_ (by omega) (by decide)) ⟨Nat.zero_le _, Nat.zero_le _⟩ rfl rfl (Nat.le_of_ble_eq_true rfl) kl_6 rfl io_0 ?_
    refine c_X8_reckoning (by omega) C (fun hh hG2 C st fc2 => ?_)
    have fc := fc.tr fc2
    obtain ⟨w, hw, W, hwf, P, CN⟩ := cr_w C
    have RD := cr_rd C st
    have hr := cr_rw C st hw
    have eN := P.1.2.2
    refine s_iload_n dX8_gets_14 rfl ?_
    refine s_iconst dX8_gets_15 ?_
    refine s_bipush dX8_gets_16 (by decide) ?_
    refine s_callV (d' := d - 1) (bc' := 0) (bs' := 0) (as := [_, _, _]) dX8_gets_18 vf_X8_292 (dd_ (by omega) (by decide)) ⟨Nat.zero_le _, Nat.zero_le _⟩ rfl rfl (Nat.le_of_ble_eq_true rfl) kl_4 rfl (rk_6_6 io_0) ?_
    refine c_X5_gotIn (by omega) (rk_6_6 io_0) hG2 (by omega) (by omega) (by omega) (by omega) (by omega) ?_
    rw [sumI_congr (g := zgt z g) _ _ (fun c y0 y1 => (RD.2.2.2.1 g c g0 g1 y0 (by omega)).2)]
    have k9 := k g0 g1 (by omega) (by omega) _ C fc
    unfold zgets at k9
    rw [if_pos (by omega)] at k9
    exact s_ireturn dX8_gets_21 rfl k9
end X8B
