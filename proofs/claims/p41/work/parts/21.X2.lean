/-! WillHouse$Facts: what each method answers and does to its row of numbers (which lies one behind the object) -/
section X2
variable {d bc bs : Nat} {Q : PQ} {h : PH} {a : Int}
set_option maxRecDepth 100000 in
set_option maxHeartbeats 4000000 in
theorem c_X2_worth {t : Int} (A : isO nN a 1) (hG : G h) (ht0 : 0 ≤ t) (ht1 : t < 8) (k : Q.1 (some (0, h (a + 1) t)) nN h) : Cl_ yX2_worth MX2_worth d bc bs [(2, a), (0, t)] nN h Q := by
  refine s_enter pn_X2 rfl (Nat.le_of_ble_eq_true rfl) (L := [(2, _), (0, _)]) rfl ?_
  refine s_aload_n dX2_worth_0 rfl ?_
  refine s_getr dX2_worth_1 fl_X2_11 kl_1 (by decide) rfl A (z := 0) rfl (rf_1_0 hG.1 A) (rk_1_0 A).1 ?_
  refine s_iconst dX2_worth_4 ?_
  refine s_iload_n dX2_worth_5 rfl ?_
  refine s_iadd dX2_worth_6 ?_
  refine s_iaload dX2_worth_7 (rk_1_0 A) (by omega) (by omega) ?_
  exact s_ireturn dX2_worth_8 rfl (by first | exact k | simpa using k)
set_option maxRecDepth 100000 in
set_option maxHeartbeats 4000000 in
theorem c_X2_told {t : Int} (A : isO nN a 1) (hG : G h) (ht0 : 0 ≤ t) (ht1 : t < 5) (k : Q.1 (some (0, h (a + 1) (56 + t))) nN h) : Cl_ yX2_told MX2_told d bc bs [(2, a), (0, t)] nN h Q := by
  refine s_enter pn_X2 rfl (Nat.le_of_ble_eq_true rfl) (L := [(2, _), (0, _)]) rfl ?_
  refine s_aload_n dX2_told_0 rfl ?_
  refine s_getr dX2_told_1 fl_X2_11 kl_1 (by decide) rfl A (z := 0) rfl (rf_1_0 hG.1 A) (rk_1_0 A).1 ?_
  refine s_bipush dX2_told_4 (by decide) ?_
  refine s_iload_n dX2_told_6 rfl ?_
  refine s_iadd dX2_told_7 ?_
  refine s_iaload dX2_told_8 (rk_1_0 A) (by omega) (by omega) ?_
  exact s_ireturn dX2_told_9 rfl (by first | exact k | simpa using k)
set_option maxRecDepth 100000 in
set_option maxHeartbeats 4000000 in
theorem c_X2_isHeld {t : Int} (A : isO nN a 1) (hG : G h) (ht0 : 0 ≤ t) (ht1 : t < 8) (k : Q.1 (some (0, b01 (h (a + 1) (8 + t) = 0))) nN h) : Cl_ yX2_isHeld MX2_isHeld d bc bs [(2, a), (0, t)] nN h Q := by
  refine s_enter pn_X2 rfl (Nat.le_of_ble_eq_true rfl) (L := [(2, _), (0, _)]) rfl ?_
  refine s_aload_n dX2_isHeld_0 rfl ?_
  refine s_getr dX2_isHeld_1 fl_X2_11 kl_1 (by decide) rfl A (z := 0) rfl (rf_1_0 hG.1 A) (rk_1_0 A).1 ?_
  refine s_bipush dX2_isHeld_4 (by decide) ?_
  refine s_iload_n dX2_isHeld_6 rfl ?_
  refine s_iadd dX2_isHeld_7 ?_
  refine s_iaload dX2_isHeld_8 (rk_1_0 A) (by omega) (by omega) ?_
  refine s_if_ne (tgt := 16) dX2_isHeld_9 (by decide) (by first | exact hG.2 _ _ | exact b01_in _ | assumption | exact ⟨by omega, by omega⟩) (fun c1 => ?_) (fun c1 => ?_)
  · refine s_iconst dX2_isHeld_16 ?_
    refine s_zreturn dX2_isHeld_17 rfl (by first | exact Or.inl rfl | exact Or.inr rfl) ?_
    first | (rw [b01_t (c := h (a + 1) (8 + t) = 0) (by first | exact c1 | simpa using c1)] at k; exact k) | (rw [b01_f (c := h (a + 1) (8 + t) = 0) (by first | exact c1 | simpa using c1)] at k; exact k)
  · refine s_iconst dX2_isHeld_12 ?_
    refine s_goto (tgt := 17) dX2_isHeld_13 (by decide) ?_
    refine s_zreturn dX2_isHeld_17 rfl (by first | exact Or.inl rfl | exact Or.inr rfl) ?_
    first | (rw [b01_t (c := h (a + 1) (8 + t) = 0) (by first | exact c1 | simpa using c1)] at k; exact k) | (rw [b01_f (c := h (a + 1) (8 + t) = 0) (by first | exact c1 | simpa using c1)] at k; exact k)
set_option maxRecDepth 100000 in
set_option maxHeartbeats 4000000 in
theorem c_X2_isDead {t : Int} (A : isO nN a 1) (hG : G h) (ht0 : 0 ≤ t) (ht1 : t < 12) (k : Q.1 (some (0, b01 (¬ h (a + 1) (32 + t) = 0))) nN h) : Cl_ yX2_isDead MX2_isDead d bc bs [(2, a), (0, t)] nN h Q := by
  refine s_enter pn_X2 rfl (Nat.le_of_ble_eq_true rfl) (L := [(2, _), (0, _)]) rfl ?_
  refine s_aload_n dX2_isDead_0 rfl ?_
  refine s_getr dX2_isDead_1 fl_X2_11 kl_1 (by decide) rfl A (z := 0) rfl (rf_1_0 hG.1 A) (rk_1_0 A).1 ?_
  refine s_bipush dX2_isDead_4 (by decide) ?_
  refine s_iload_n dX2_isDead_6 rfl ?_
  refine s_iadd dX2_isDead_7 ?_
  refine s_iaload dX2_isDead_8 (rk_1_0 A) (by omega) (by omega) ?_
  refine s_if_eq (tgt := 16) dX2_isDead_9 (by decide) (by first | exact hG.2 _ _ | exact b01_in _ | assumption | exact ⟨by omega, by omega⟩) (fun c1 => ?_) (fun c1 => ?_)
  · refine s_iconst dX2_isDead_16 ?_
    refine s_zreturn dX2_isDead_17 rfl (by first | exact Or.inl rfl | exact Or.inr rfl) ?_
    first | (rw [b01_t (c := ¬ h (a + 1) (32 + t) = 0) (by first | exact c1 | simpa using c1)] at k; exact k) | (rw [b01_f (c := ¬ h (a + 1) (32 + t) = 0) (by first | exact c1 | simpa using c1)] at k; exact k)
  · refine s_iconst dX2_isDead_12 ?_
    refine s_goto (tgt := 17) dX2_isDead_13 (by decide) ?_
    refine s_zreturn dX2_isDead_17 rfl (by first | exact Or.inl rfl | exact Or.inr rfl) ?_
    first | (rw [b01_t (c := ¬ h (a + 1) (32 + t) = 0) (by first | exact c1 | simpa using c1)] at k; exact k) | (rw [b01_f (c := ¬ h (a + 1) (32 + t) = 0) (by first | exact c1 | simpa using c1)] at k; exact k)
set_option maxRecDepth 100000 in
set_option maxHeartbeats 4000000 in
theorem c_X2_isRenounced {t : Int} (A : isO nN a 1) (hG : G h) (ht0 : 0 ≤ t) (ht1 : t < 12) (k : Q.1 (some (0, b01 (¬ h (a + 1) (44 + t) = 0))) nN h) : Cl_ yX2_isRenounced MX2_isRenounced d bc bs [(2, a), (0, t)] nN h Q := by
  refine s_enter pn_X2 rfl (Nat.le_of_ble_eq_true rfl) (L := [(2, _), (0, _)]) rfl ?_
  refine s_aload_n dX2_isRenounced_0 rfl ?_
  refine s_getr dX2_isRenounced_1 fl_X2_11 kl_1 (by decide) rfl A (z := 0) rfl (rf_1_0 hG.1 A) (rk_1_0 A).1 ?_
  refine s_bipush dX2_isRenounced_4 (by decide) ?_
  refine s_iload_n dX2_isRenounced_6 rfl ?_
  refine s_iadd dX2_isRenounced_7 ?_
  refine s_iaload dX2_isRenounced_8 (rk_1_0 A) (by omega) (by omega) ?_
  refine s_if_eq (tgt := 16) dX2_isRenounced_9 (by decide) (by first | exact hG.2 _ _ | exact b01_in _ | assumption | exact ⟨by omega, by omega⟩) (fun c1 => ?_) (fun c1 => ?_)
  · refine s_iconst dX2_isRenounced_16 ?_
    refine s_zreturn dX2_isRenounced_17 rfl (by first | exact Or.inl rfl | exact Or.inr rfl) ?_
    first | (rw [b01_t (c := ¬ h (a + 1) (44 + t) = 0) (by first | exact c1 | simpa using c1)] at k; exact k) | (rw [b01_f (c := ¬ h (a + 1) (44 + t) = 0) (by first | exact c1 | simpa using c1)] at k; exact k)
  · refine s_iconst dX2_isRenounced_12 ?_
    refine s_goto (tgt := 17) dX2_isRenounced_13 (by decide) ?_
    refine s_zreturn dX2_isRenounced_17 rfl (by first | exact Or.inl rfl | exact Or.inr rfl) ?_
    first | (rw [b01_t (c := ¬ h (a + 1) (44 + t) = 0) (by first | exact c1 | simpa using c1)] at k; exact k) | (rw [b01_f (c := ¬ h (a + 1) (44 + t) = 0) (by first | exact c1 | simpa using c1)] at k; exact k)
/-- what a thing brings -/
def br_ (h : PH) (c t : Int) : Int := if h c (8 + t) = 0 then h c t else h c (24 + t)
set_option maxRecDepth 100000 in
set_option maxHeartbeats 4000000 in
theorem c_X2_brings {t : Int} (hd : 2 ≤ d) (A : isO nN a 1) (hG : G h) (ht0 : 0 ≤ t) (ht1 : t < 8) (k : Q.1 (some (0, br_ h (a + 1) t)) nN h) : Cl_ yX2_brings MX2_brings d bc bs [(2, a), (0, t)] nN h Q := by
  refine s_enter pn_X2 rfl (Nat.le_of_ble_eq_true rfl) (L := [(2, _), (0, _)]) rfl ?_
  refine s_aload_n dX2_brings_0 rfl ?_
  refine s_iload_n dX2_brings_1 rfl ?_
  refine s_callV (d' := d - 1) (bc' := 0) (bs' := 0) (as := [_]) dX2_brings_2 vf_X2_27 (dd_ (by omega) (by decide)) ⟨Nat.zero_le _, Nat.zero_le _⟩ rfl rfl (Nat.le_of_ble_eq_true rfl) kl_1 rfl A ?_
  refine c_X2_isHeld A hG (by omega) (by omega) ?_
  refine s_if_eq (tgt := 16) dX2_brings_5 (by decide) (by first | exact hG.2 _ _ | exact b01_in _ | assumption | exact ⟨by omega, by omega⟩) (fun c1 => ?_) (fun c1 => ?_)
  · have c1 := b01_0.mp c1
    refine s_aload_n dX2_brings_16 rfl ?_
    refine s_getr dX2_brings_17 fl_X2_11 kl_1 (by decide) rfl A (z := 0) rfl (rf_1_0 hG.1 A) (rk_1_0 A).1 ?_
    refine s_bipush dX2_brings_20 (by decide) ?_
    refine s_iload_n dX2_brings_22 rfl ?_
    refine s_iadd dX2_brings_23 ?_
    refine s_iaload dX2_brings_24 (rk_1_0 A) (by omega) (by omega) ?_
    exact s_ireturn dX2_brings_25 rfl (by unfold br_ at k; simpa [c1] using k)
  · have c1 := b01_n.mp c1
    refine s_aload_n dX2_brings_8 rfl ?_
    refine s_iload_n dX2_brings_9 rfl ?_
    refine s_callV (d' := d - 1) (bc' := 0) (bs' := 0) (as := [_]) dX2_brings_10 vf_X2_31 (dd_ (by omega) (by decide)) ⟨Nat.zero_le _, Nat.zero_le _⟩ rfl rfl (Nat.le_of_ble_eq_true rfl) kl_1 rfl A ?_
    refine c_X2_worth A hG (by omega) (by omega) ?_
    refine s_goto (tgt := 25) dX2_brings_13 (by decide) ?_
    exact s_ireturn dX2_brings_25 rfl (by unfold br_ at k; simpa [c1] using k)
set_option maxRecDepth 100000 in
set_option maxHeartbeats 4000000 in
theorem c_X2_putWorth {t v : Int} (A : isO nN a 1) (hG : G h) (ht0 : 0 ≤ t) (ht1 : t < 8) (hv : inI v) (k : Q.1 none nN (hs_ h (a + 1) t v)) : Cl_ yX2_putWorth MX2_putWorth d bc bs [(2, a), (0, t), (0, v)] nN h Q := by
  refine s_enter pn_X2 rfl (Nat.le_of_ble_eq_true rfl) (L := [(2, _), (0, _), (0, _)]) rfl ?_
  refine s_aload_n dX2_putWorth_0 rfl ?_
  refine s_getr dX2_putWorth_1 fl_X2_11 kl_1 (by decide) rfl A (z := 0) rfl (rf_1_0 hG.1 A) (rk_1_0 A).1 ?_
  refine s_iconst dX2_putWorth_4 ?_
  refine s_iload_n dX2_putWorth_5 rfl ?_
  refine s_iadd dX2_putWorth_6 ?_
  refine s_iload_n dX2_putWorth_7 rfl ?_
  refine s_iastoreG dX2_putWorth_8 (rk_1_0 A) (by omega) (by omega) hG (by first | exact hG.2 _ _ | exact b01_in _ | assumption | exact ⟨by omega, by omega⟩) (fun hG1 => ?_)
  exact s_return dX2_putWorth_9 rfl (by first | exact k | simpa using k)
set_option maxRecDepth 100000 in
set_option maxHeartbeats 4000000 in
theorem c_X2_putLost {t v : Int} (A : isO nN a 1) (hG : G h) (ht0 : 0 ≤ t) (ht1 : t < 8) (hv : inI v) (k : Q.1 none nN (hs_ (hs_ h (a + 1) (8 + t) 2) (a + 1) (24 + t) v)) : Cl_ yX2_putLost MX2_putLost d bc bs [(2, a), (0, t), (0, v)] nN h Q := by
  refine s_enter pn_X2 rfl (Nat.le_of_ble_eq_true rfl) (L := [(2, _), (0, _), (0, _)]) rfl ?_
  refine s_aload_n dX2_putLost_0 rfl ?_
  refine s_getr dX2_putLost_1 fl_X2_11 kl_1 (by decide) rfl A (z := 0) rfl (rf_1_0 hG.1 A) (rk_1_0 A).1 ?_
  refine s_bipush dX2_putLost_4 (by decide) ?_
  refine s_iload_n dX2_putLost_6 rfl ?_
  refine s_iadd dX2_putLost_7 ?_
  refine s_iconst dX2_putLost_8 ?_
  refine s_iastoreG dX2_putLost_9 (rk_1_0 A) (by omega) (by omega) hG (by first | exact hG.2 _ _ | exact b01_in _ | assumption | exact ⟨by omega, by omega⟩) (fun hG1 => ?_)
  refine s_aload_n dX2_putLost_10 rfl ?_
  refine s_getr dX2_putLost_11 fl_X2_11 kl_1 (by decide) rfl A (z := 0) rfl (rf_1_0 hG1.1 A) (rk_1_0 A).1 ?_
  refine s_bipush dX2_putLost_14 (by decide) ?_
  refine s_iload_n dX2_putLost_16 rfl ?_
  refine s_iadd dX2_putLost_17 ?_
  refine s_iload_n dX2_putLost_18 rfl ?_
  refine s_iastoreG dX2_putLost_19 (rk_1_0 A) (by omega) (by omega) hG1 (by first | exact hG1.2 _ _ | exact hG.2 _ _ | exact b01_in _ | assumption | exact ⟨by omega, by omega⟩) (fun hG2 => ?_)
  exact s_return dX2_putLost_20 rfl (by first | exact k | simpa using k)
set_option maxRecDepth 100000 in
set_option maxHeartbeats 4000000 in
theorem c_X2_putDead {t : Int} (A : isO nN a 1) (hG : G h) (ht0 : 0 ≤ t) (ht1 : t < 12) (k : Q.1 none nN (hs_ h (a + 1) (32 + t) 1)) : Cl_ yX2_putDead MX2_putDead d bc bs [(2, a), (0, t)] nN h Q := by
  refine s_enter pn_X2 rfl (Nat.le_of_ble_eq_true rfl) (L := [(2, _), (0, _)]) rfl ?_
  refine s_aload_n dX2_putDead_0 rfl ?_
  refine s_getr dX2_putDead_1 fl_X2_11 kl_1 (by decide) rfl A (z := 0) rfl (rf_1_0 hG.1 A) (rk_1_0 A).1 ?_
  refine s_bipush dX2_putDead_4 (by decide) ?_
  refine s_iload_n dX2_putDead_6 rfl ?_
  refine s_iadd dX2_putDead_7 ?_
  refine s_iconst dX2_putDead_8 ?_
  refine s_iastoreG dX2_putDead_9 (rk_1_0 A) (by omega) (by omega) hG (by first | exact hG.2 _ _ | exact b01_in _ | assumption | exact ⟨by omega, by omega⟩) (fun hG1 => ?_)
  exact s_return dX2_putDead_10 rfl (by first | exact k | simpa using k)
set_option maxRecDepth 100000 in
set_option maxHeartbeats 4000000 in
theorem c_X2_putTold {t v : Int} (A : isO nN a 1) (hG : G h) (ht0 : 0 ≤ t) (ht1 : t < 5) (hv : inI v) (k : Q.1 none nN (hs_ h (a + 1) (56 + t) v)) : Cl_ yX2_putTold MX2_putTold d bc bs [(2, a), (0, t), (0, v)] nN h Q := by
  refine s_enter pn_X2 rfl (Nat.le_of_ble_eq_true rfl) (L := [(2, _), (0, _), (0, _)]) rfl ?_
  refine s_aload_n dX2_putTold_0 rfl ?_
  refine s_getr dX2_putTold_1 fl_X2_11 kl_1 (by decide) rfl A (z := 0) rfl (rf_1_0 hG.1 A) (rk_1_0 A).1 ?_
  refine s_bipush dX2_putTold_4 (by decide) ?_
  refine s_iload_n dX2_putTold_6 rfl ?_
  refine s_iadd dX2_putTold_7 ?_
  refine s_iload_n dX2_putTold_8 rfl ?_
  refine s_iastoreG dX2_putTold_9 (rk_1_0 A) (by omega) (by omega) hG (by first | exact hG.2 _ _ | exact b01_in _ | assumption | exact ⟨by omega, by omega⟩) (fun hG1 => ?_)
  exact s_return dX2_putTold_10 rfl (by first | exact k | simpa using k)
set_option maxRecDepth 100000 in
set_option maxHeartbeats 4000000 in
theorem c_X2_clear  (hd : 2 ≤ d) (A : isO nN a 1) (hG : G h) (k : Q.1 none nN (hs_ (fl_ h (a + 1) 0 61 0) (a + 1) 59 5)) : Cl_ yX2_clear MX2_clear d bc bs [(2, a)] nN h Q := by
  refine s_enter pn_X2 rfl (Nat.le_of_ble_eq_true rfl) (L := [(2, _)]) rfl ?_
  refine s_aload_n dX2_clear_0 rfl ?_
  refine s_getr dX2_clear_1 fl_X2_11 kl_1 (by decide) rfl A (z := 0) rfl (rf_1_0 hG.1 A) (rk_1_0 A).1 ?_
  refine s_iconst dX2_clear_4 ?_
  refine s_callS (d' := d - 1) (bc' := 0) (bs' := 0) (as := [_, _]) dX2_clear_5 sf_X2_15 (dd_ (by omega) (by decide)) ⟨Nat.zero_le _, Nat.zero_le _⟩ rfl rfl (Nat.le_of_ble_eq_true rfl) ?_
  refine c_fill (rk_1_0 A) (by first | exact hG.2 _ _ | exact b01_in _ | assumption | exact ⟨by omega, by omega⟩) hG (fun hG1 => ?_)
  refine s_aload_n dX2_clear_8 rfl ?_
  refine s_getr dX2_clear_9 fl_X2_11 kl_1 (by decide) rfl A (z := 0) rfl (rf_1_0 hG1.1 A) (rk_1_0 A).1 ?_
  refine s_bipush dX2_clear_12 (by decide) ?_
  refine s_iconst dX2_clear_14 ?_
  refine s_iastoreG dX2_clear_15 (rk_1_0 A) (by omega) (by omega) hG1 (by first | exact hG1.2 _ _ | exact hG.2 _ _ | exact b01_in _ | assumption | exact ⟨by omega, by omega⟩) (fun hG2 => ?_)
  exact s_return dX2_clear_16 rfl k
set_option maxRecDepth 100000 in
set_option maxHeartbeats 4000000 in
theorem c_X2_copyFrom {b : Int} (hd : 2 ≤ d) (A : isO nN a 1) (B : isO nN b 1) (hG : G h) (k : Q.1 none nN (cp_ h (b + 1) 0 (a + 1) 0 61)) : Cl_ yX2_copyFrom MX2_copyFrom d bc bs [(2, a), (2, b)] nN h Q := by
  refine s_enter pn_X2 rfl (Nat.le_of_ble_eq_true rfl) (L := [(2, _), (2, _)]) rfl ?_
  refine s_aload_n dX2_copyFrom_0 rfl ?_
  refine s_getr dX2_copyFrom_1 fl_X2_11 kl_1 (by decide) rfl B (z := 0) rfl (rf_1_0 hG.1 B) (rk_1_0 B).1 ?_
  refine s_iconst dX2_copyFrom_4 ?_
  refine s_aload_n dX2_copyFrom_5 rfl ?_
  refine s_getr dX2_copyFrom_6 fl_X2_11 kl_1 (by decide) rfl A (z := 0) rfl (rf_1_0 hG.1 A) (rk_1_0 A).1 ?_
  refine s_iconst dX2_copyFrom_9 ?_
  refine s_bipush dX2_copyFrom_10 (by decide) ?_
  refine s_copyi dX2_copyFrom_12 jc_X2_21 (rk_1_0 B) (rk_1_0 A) (by omega) (by omega) (by omega) (by omega) (by omega) (by omega) (Nat.le_of_ble_eq_true rfl) hG (fun hG1 => ?_)
  exact s_return dX2_copyFrom_15 rfl k
set_option maxRecDepth 100000 in
set_option maxHeartbeats 4000000 in
theorem c_X2_putSold {t p o : Int} (A : isO nN a 1) (hG : G h) (ht0 : 0 ≤ t) (ht1 : t < 8) (hp : inI p) (ho : inI o) (hc : inI (h (a + 1) 56 + (p - o))) (k : Q.1 none nN (hs_ (hs_ (hs_ (hs_ h (a + 1) (8 + t) 1) (a + 1) (16 + t) p) (a + 1) (24 + t) o) (a + 1) 56 (h (a + 1) 56 + (p - o)))) : Cl_ yX2_putSold MX2_putSold d bc bs [(2, a), (0, t), (0, p), (0, o)] nN h Q := by
  refine s_enter pn_X2 rfl (Nat.le_of_ble_eq_true rfl) (L := [(2, _), (0, _), (0, _), (0, _)]) rfl ?_
  refine s_aload_n dX2_putSold_0 rfl ?_
  refine s_getr dX2_putSold_1 fl_X2_11 kl_1 (by decide) rfl A (z := 0) rfl (rf_1_0 hG.1 A) (rk_1_0 A).1 ?_
  refine s_bipush dX2_putSold_4 (by decide) ?_
  refine s_iload_n dX2_putSold_6 rfl ?_
  refine s_iadd dX2_putSold_7 ?_
  refine s_iconst dX2_putSold_8 ?_
  refine s_iastoreG dX2_putSold_9 (rk_1_0 A) (by omega) (by omega) hG (by first | exact hG.2 _ _ | exact b01_in _ | assumption | exact ⟨by omega, by omega⟩) (fun hG1 => ?_)
  refine s_aload_n dX2_putSold_10 rfl ?_
  refine s_getr dX2_putSold_11 fl_X2_11 kl_1 (by decide) rfl A (z := 0) rfl (rf_1_0 hG1.1 A) (rk_1_0 A).1 ?_
  refine s_bipush dX2_putSold_14 (by decide) ?_
  refine s_iload_n dX2_putSold_16 rfl ?_
  refine s_iadd dX2_putSold_17 ?_
  refine s_iload_n dX2_putSold_18 rfl ?_
  refine s_iastoreG dX2_putSold_19 (rk_1_0 A) (by omega) (by omega) hG1 (by first | exact hG1.2 _ _ | exact hG.2 _ _ | exact b01_in _ | assumption | exact ⟨by omega, by omega⟩) (fun hG2 => ?_)
  refine s_aload_n dX2_putSold_20 rfl ?_
  refine s_getr dX2_putSold_21 fl_X2_11 kl_1 (by decide) rfl A (z := 0) rfl (rf_1_0 hG2.1 A) (rk_1_0 A).1 ?_
  refine s_bipush dX2_putSold_24 (by decide) ?_
  refine s_iload_n dX2_putSold_26 rfl ?_
  refine s_iadd dX2_putSold_27 ?_
  refine s_iload_n dX2_putSold_28 rfl ?_
  refine s_iastoreG dX2_putSold_29 (rk_1_0 A) (by omega) (by omega) hG2 (by first | exact hG2.2 _ _ | exact hG.2 _ _ | exact b01_in _ | assumption | exact ⟨by omega, by omega⟩) (fun hG3 => ?_)
  refine s_aload_n dX2_putSold_30 rfl ?_
  refine s_getr dX2_putSold_31 fl_X2_11 kl_1 (by decide) rfl A (z := 0) rfl (rf_1_0 hG3.1 A) (rk_1_0 A).1 ?_
  refine s_bipush dX2_putSold_34 (by decide) ?_
  refine s_dup2 dX2_putSold_36 rfl rfl ?_
  refine s_iaload dX2_putSold_37 (rk_1_0 A) (by omega) (by omega) ?_
  try simp (disch := omega) only [hs_same, hs_ne, fl_in, fl_ne, cp_inn, cp_nee]
  refine s_iload_n dX2_putSold_38 rfl ?_
  refine s_iload_n dX2_putSold_39 rfl ?_
  refine s_isub dX2_putSold_40 ?_
  refine s_iadd dX2_putSold_41 ?_
  refine s_iastoreG dX2_putSold_42 (rk_1_0 A) (by omega) (by omega) hG3 (by first | exact hG3.2 _ _ | exact hG.2 _ _ | exact b01_in _ | assumption | exact ⟨by omega, by omega⟩) (fun hG4 => ?_)
  exact s_return dX2_putSold_43 rfl (by first | exact k | simpa using k)
end X2
