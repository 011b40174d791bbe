/-! WillHouse: numbers told; as if -/
section X8G
variable {d bc bs : Nat} {Q : PQ} {h z : PH}
def zmt (t : Int) : Int := if t < 2 then 99999 else if t = 2 then 240 else if t = 3 then 99 else 1
theorem zmt_of {t : Int} (t0 : 0 ≤ t) (t1 : t < 5) : mtd_.getD t.toNat 0 = zmt t := by
  rcases (by omega : t = 0 ∨ t = 1 ∨ t = 2 ∨ t = 3 ∨ t = 4) with e | e | e | e | e <;> subst e <;> rfl
theorem zmt_bd (t : Int) : 1 ≤ zmt t ∧ zmt t ≤ 99999 := by
  unfold zmt
  split
  · omega
  · split
    · omega
    · split <;> omega
theorem zmt_in {t v : Int} (v1 : v ≤ zmt t) : (t = 0 ∨ t = 1 → v ≤ 99999) ∧ (t = 2 → v ≤ 240) ∧ (t = 3 → v ≤ 99) ∧ (t = 4 → v ≤ 1) := by
  unfold zmt at v1
  refine ⟨fun e => ?_, fun e => ?_, fun e => ?_, fun e => ?_⟩
  · rw [if_pos (by omega)] at v1; omega
  · rw [if_neg (by omega), if_pos e] at v1; omega
  · rw [if_neg (by omega), if_neg (by omega), if_pos e] at v1; omega
  · rw [if_neg (by omega), if_neg (by omega), if_neg (by omega)] at v1; omega
set_option maxRecDepth 100000 in
set_option maxHeartbeats 4000000 in
theorem c_X8_set {t v : Int} (hd : 10 ≤ d) (hbc : 8 ≤ bc) (hbs : 48 ≤ bs) (C : CR_ h z) (ht : inI t) (hv : inI v) (k : 0 ≤ t → t < 5 → 0 ≤ v → v ≤ zmt t → ∀ h1 : PH, CR_ h1 (zact z (fu_ (z 1) (56 + t) v)) → FC h h1 → Q.1 (some (0, z 1 (56 + t))) nN h1) (k1 : ¬ (0 ≤ t ∧ t < 5) → TH_ Q h z vy_X) (k2 : 0 ≤ t → t < 5 → ¬ (0 ≤ v ∧ v ≤ zmt t) → TH_ Q h z IAE) : Cl_ yX8_set MX8_set d bc bs [(2, 0), (0, t), (0, v)] nN h Q := by
  refine s_enter pn_X8 rfl (Nat.le_of_ble_eq_true rfl) (L := [(2, _), (0, _), (0, _), (9, 0)]) rfl ?_
  have hG := cr_g C
  have I := cr_i C
  obtain ⟨w, hw, W, hwf, P, CN⟩ := cr_w C
  have fc := FC.rf h
  have hT := I.2.1
  have hP := I.2.2.1
  have hN := I.2.2.2.1
  have e1 := C.2.2.2.2.2.2.1.1
  have b50 := (cr_b C).1
  have bm := zmt_bd t
  refine s_iload_n dX8_set_0 rfl ?_
  refine s_if_lt (tgt := 9) dX8_set_1 (by decide) (by first | exact hG.2 _ _ | exact b01_in _ | assumption | exact ⟨by omega, by omega⟩) (fun c1 => ?_) (fun c1 => ?_)
  · refine s_throwN (w9 := 6) nh_0 dX8_set_9 dX8_set_12 (Or.inl ⟨rfl, dX8_set_13⟩) dX8_set_15 dX8_set_18 ts_X8_138_241_142 (by omega) (by omega) (by omega) (Nat.le_of_ble_eq_true rfl) ?_
    exact k1 (by omega) h C (FC.rf h)
  · refine s_iload_n dX8_set_4 rfl ?_
    refine s_iconst dX8_set_5 ?_
    refine s_icmp_lt (tgt := 19) dX8_set_6 (by decide) (by first | exact hG.2 _ _ | exact b01_in _ | assumption | exact ⟨by omega, by omega⟩) (by first | exact hG.2 _ _ | exact b01_in _ | assumption | exact ⟨by omega, by omega⟩) (fun c2 => ?_) (fun c2 => ?_)
    · refine s_iload_n dX8_set_19 rfl ?_
      refine s_if_lt (tgt := 32) dX8_set_20 (by decide) (by first | exact hG.2 _ _ | exact b01_in _ | assumption | exact ⟨by omega, by omega⟩) (fun c3 => ?_) (fun c3 => ?_)
      · refine s_throw nh_0 dX8_set_32 dX8_set_35 dX8_set_36 dX8_set_38 dX8_set_41 ts_X8_207_246_211 bf_IAE (by omega) (by omega) (by omega) (Nat.le_of_ble_eq_true rfl) ?_
        exact k2 (by omega) (by omega) (by omega) h C (FC.rf h)
      · refine s_iload_n dX8_set_23 rfl ?_
        refine s_getsr dX8_set_24 (C := "WillHouse") (nm := "MOST_TOLD") (ds := "[I") (ref := "") (z := 1302) (by decide +kernel) fl_X8_243 ?_
        refine s_iload_n dX8_set_27 rfl ?_
        refine s_kiaload dX8_set_28 (z := 1302) (k := 5) (f := fun i => mtd_.getD i 0) (fun _ _ _ _ K => K.2.2.2.2.2.2.1) (by decide) (by omega) (by omega) (v := zmt t) (zmt_of (by omega) (by omega)) ?_
        refine s_icmp_le (tgt := 42) dX8_set_29 (by decide) (by first | exact hG.2 _ _ | exact b01_in _ | assumption | exact ⟨by omega, by omega⟩) (by first | exact hG.2 _ _ | exact b01_in _ | assumption | exact ⟨by omega, by omega⟩) (fun c4 => ?_) (fun c4 => ?_)
        · refine s_aload_n dX8_set_42 rfl ?_
          refine s_callV (d' := d - 1) (bc' := 0) (bs' := 0) (as := []) dX8_set_43 vf_X8_198 (dd_ (by omega) (by decide)) ⟨Nat.zero_le _, Nat.zero_le _⟩ rfl rfl (Nat.le_of_ble_eq_true rfl) kl_6 rfl io_0 ?_
          refine c_X8_beginAct (by omega) C (fun h1 A1 => ?_)
          have hG1 := cr_g A1.1
          have I := cr_i A1.1
          obtain ⟨w, hw, W, hwf, P, CN⟩ := cr_w A1.1
          have k0 := zkeep_lo (z := z) 0 (by omega)
          have k1_ := zkeep_lo (z := z) 1 (by omega)
          refine s_aload_n dX8_set_46 rfl ?_
          refine s_getr dX8_set_47 fl_X8_32 kl_6 (by decide) rfl io_0 (z := 4) rfl (rf_6_4 hG1.1 io_0) (rk_6_4 io_0).1 ?_
          refine s_iload_n dX8_set_50 rfl ?_
          refine s_callV (d' := d - 1) (bc' := 0) (bs' := 0) (as := [_]) dX8_set_51 vf_X8_204 (dd_ (by omega) (by decide)) ⟨Nat.zero_le _, Nat.zero_le _⟩ rfl rfl (Nat.le_of_ble_eq_true rfl) kl_1 rfl (rk_6_4 io_0) ?_
          refine c_X2_told (rk_6_4 io_0) hG1 (by omega) (by omega) ?_
          rw [P.2.1 _ (by omega) (by omega), k1_]
          refine s_istore_n dX8_set_54 (by decide) rfl (L' := [_, _, _, _]) rfl ?_
          refine s_aload_n dX8_set_55 rfl ?_
          refine s_getr dX8_set_56 fl_X8_32 kl_6 (by decide) rfl io_0 (z := 4) rfl (rf_6_4 hG1.1 io_0) (rk_6_4 io_0).1 ?_
          refine s_iload_n dX8_set_59 rfl ?_
          refine s_iload_n dX8_set_60 rfl ?_
          refine s_callV (d' := d - 1) (bc' := 0) (bs' := 0) (as := [_, _]) dX8_set_61 vf_X8_248 (dd_ (by omega) (by decide)) ⟨Nat.zero_le _, Nat.zero_le _⟩ rfl rfl (Nat.le_of_ble_eq_true rfl) kl_1 rfl (rk_6_4 io_0) ?_
          refine cf_told A1 (by omega) (by omega) (by omega) (zmt_in (by omega)) (fun h2 A2 => ?_)
          have hG2 := cr_g A2.1
          rw [k1_] at A2
          refine s_iload_n dX8_set_64 rfl ?_
          refine s_ireturn dX8_set_65 rfl ?_
          exact k (by omega) (by omega) (by omega) (by omega) h2 A2.1 A2.2.2
        · refine s_throw nh_0 dX8_set_32 dX8_set_35 dX8_set_36 dX8_set_38 dX8_set_41 ts_X8_207_246_211 bf_IAE (by omega) (by omega) (by omega) (Nat.le_of_ble_eq_true rfl) ?_
          exact k2 (by omega) (by omega) (by omega) h C (FC.rf h)
    · refine s_throwN (w9 := 6) nh_0 dX8_set_9 dX8_set_12 (Or.inl ⟨rfl, dX8_set_13⟩) dX8_set_15 dX8_set_18 ts_X8_138_241_142 (by omega) (by omega) (by omega) (Nat.le_of_ble_eq_true rfl) ?_
      exact k1 (by omega) h C (FC.rf h)
theorem pr_su {h0 h z : PH} {F : Int → Int} {w : Int} (S : SU_ h0 h z F) (P : PR_ h w (0 + 79) z) : PR_ h w (0 + 146) (zput z F) := by
  obtain ⟨⟨a1, a2, a3⟩, a4, a5, a6⟩ := P
  unfold PR_
  rw [zkn_to (z := z) (zput_ne (by omega)) (zput_ne (by omega)), zput_1, zput_ne (x := 0) (by omega), zput_ne (x := 2) (by omega), zput_ne (x := 3) (by omega), zput_ne (x := 5) (by omega), zput_ne (x := 6) (by omega), zput_ne (x := 7) (by omega), zput_ne (x := 8) (by omega), zput_ne (x := 9) (by omega)]
  exact ⟨⟨a1, a2, a3⟩, S.2.2, a5, a6⟩
set_option maxRecDepth 100000 in
set_option maxHeartbeats 4000000 in
theorem c_X8_takenAsSupposed {h0 : PH} {F : Int → Int} {p : Int} (hd : 8 ≤ d) (C : SU_ h0 h z F) (hF : ZF (fun _ => F)) (p0 : 0 ≤ p) (p1 : p < z 0 1) (k : OK_ Q h0 z (zta (zput z F) p)) : Cl_ yX8_takenAsSupposed MX8_takenAsSupposed d bc bs [(2, 0), (0, p)] nN h Q := by
  refine s_enter pn_X8 rfl (Nat.le_of_ble_eq_true rfl) (L := [(2, _), (0, _)]) rfl ?_
  have hG := cr_g C.1
  have I := cr_i C.1
  obtain ⟨w, hw, W, hwf, P, CN⟩ := cr_w C.1
  have hT := I.2.1
  have hP := I.2.2.1
  have hN := I.2.2.2.1
  have ef : h (0 + 148) 15 = 0 + 146 := rf_at hG.1 (a := 148) (k := 15) (b := 146) (by decide +kernel)
  have z0 : zput z F 0 = z 0 := zput_ne (by omega)
  refine s_aload_n dX8_takenAsSupposed_0 rfl ?_
  refine s_getr dX8_takenAsSupposed_1 fl_X8_59 kl_6 (by decide) rfl io_0 (z := 9) rfl (rf_6_9 hG.1 io_0) (rk_6_9 io_0).1 ?_
  refine s_aload_n dX8_takenAsSupposed_4 rfl ?_
  refine s_getr dX8_takenAsSupposed_5 fl_X8_25 kl_6 (by decide) rfl io_0 (z := 3) rfl (by first | exact hw | (simp (disch := omega) only [hs_same, hs_ne, fl_in, fl_ne, cp_inn, cp_nee]; exact hw)) (W).1 ?_
  refine s_callV (d' := d - 1) (bc' := 0) (bs' := 0) (as := [_]) dX8_takenAsSupposed_8 vf_X8_356 (dd_ (by omega) (by decide)) ⟨Nat.zero_le _, Nat.zero_le _⟩ rfl rfl (Nat.le_of_ble_eq_true rfl) kl_4 rfl (rk_6_9 io_0) ?_
  refine c_X5_reckon (by omega) (rk_6_9 io_0) W (rk_6_8 io_0) (by omega) ef (pr_su C P) (zi_put I hF) hG (fun h1 hG1 fr1 w1 rd1 => ?_)
  have eN : h1 w 7 = z 0 2 := by rw [fr1 _ _ (by omega)]; exact P.1.2.2
  refine s_aload_n dX8_takenAsSupposed_11 rfl ?_
  refine s_getr dX8_takenAsSupposed_12 fl_X8_59 kl_6 (by decide) rfl io_0 (z := 9) rfl (rf_6_9 hG1.1 io_0) (rk_6_9 io_0).1 ?_
  refine s_iload_n dX8_takenAsSupposed_15 rfl ?_
  refine s_callV (d' := d - 1) (bc' := 0) (bs' := 0) (as := [_]) dX8_takenAsSupposed_16 vf_X8_325 (dd_ (by omega) (by decide)) ⟨Nat.zero_le _, Nat.zero_le _⟩ rfl rfl (Nat.le_of_ble_eq_true rfl) kl_4 rfl (rk_6_9 io_0) ?_
  refine c_X5_takenInAll (rk_6_9 io_0) hG1 w1 W (by omega) (by omega) (by omega) (by omega) ?_
  rw [tk_of rd1 (by rw [z0]; exact eN) p0 (by rw [z0]; exact p1)]
  exact s_ireturn dX8_takenAsSupposed_19 rfl (k h1 (cr_sup C.1 hG1 (fun x y hx => fr1 x y (by omega))) (C.2.1.tr (fun x y hx => fr1 x y (by omega))))
set_option maxRecDepth 100000 in
set_option maxHeartbeats 4000000 in
theorem c_X8_ifDead {p t : Int} (hd : 10 ≤ d) (hbc : 8 ≤ bc) (hbs : 48 ≤ bs) (C : CR_ h z) (hp : inI p) (ht : inI t) (k : 0 ≤ p → p < z 0 1 → 0 ≤ t → t < z 0 1 → z 1 (32 + t) = 0 → OK_ Q h z (zta (zput z (fu_ (z 1) (32 + t) 1)) p)) (k1 : ¬ ((0 ≤ p ∧ p < z 0 1) ∧ 0 ≤ t ∧ t < z 0 1) → TH_ Q h z IOB) (k2 : 0 ≤ p → p < z 0 1 → 0 ≤ t → t < z 0 1 → ¬ z 1 (32 + t) = 0 → TH_ Q h z ISE) : Cl_ yX8_ifDead MX8_ifDead d bc bs [(2, 0), (0, p), (0, t)] nN h Q := by
  refine s_enter pn_X8 rfl (Nat.le_of_ble_eq_true rfl) (L := [(2, _), (0, _), (0, _)]) rfl ?_
  have hG := cr_g C
  have I := cr_i C
  obtain ⟨w, hw, W, hwf, P, CN⟩ := cr_w C
  have fc := FC.rf h
  have hT := I.2.1
  have hP := I.2.2.1
  have hN := I.2.2.2.1
  have e1 := C.2.2.2.2.2.2.1.1
  have b50 := (cr_b C).1
  refine s_aload_n dX8_ifDead_0 rfl ?_
  refine s_iload_n dX8_ifDead_1 rfl ?_
  refine s_callV (d' := d - 1) (bc' := 1) (bs' := 6) (as := [_]) dX8_ifDead_2 vf_X8_102 (dd_ (by omega) (by decide)) ⟨by omega, by omega⟩ rfl rfl (Nat.le_of_ble_eq_true rfl) kl_6 rfl io_0 ?_
  refine c_X8_checkPerson (by omega) (by omega) (by omega) C (by assumption) (fun p0 p1 => ?_) (fun e => k1 (by omega) h C (FC.rf h))
  refine s_aload_n dX8_ifDead_5 rfl ?_
  refine s_iload_n dX8_ifDead_6 rfl ?_
  refine s_callV (d' := d - 1) (bc' := 1) (bs' := 6) (as := [_]) dX8_ifDead_7 vf_X8_102 (dd_ (by omega) (by decide)) ⟨by omega, by omega⟩ rfl rfl (Nat.le_of_ble_eq_true rfl) kl_6 rfl io_0 ?_
  refine c_X8_checkPerson (by omega) (by omega) (by omega) C (by assumption) (fun t0 t1 => ?_) (fun e => k1 (by omega) h C (FC.rf h))
  refine s_aload_n dX8_ifDead_10 rfl ?_
  refine s_iload_n dX8_ifDead_11 rfl ?_
  refine s_callV (d' := d - 1) (bc' := 1) (bs' := 6) (as := [_]) dX8_ifDead_12 vf_X8_224 (dd_ (by omega) (by decide)) ⟨by omega, by omega⟩ rfl rfl (Nat.le_of_ble_eq_true rfl) kl_6 rfl io_0 ?_
  refine c_X8_checkLives (by omega) (by omega) (by omega) C t0 t1 (fun st => ?_) (fun st => k2 p0 p1 t0 t1 st h C (FC.rf h))
  refine s_aload_n dX8_ifDead_15 rfl ?_
  refine s_getr dX8_ifDead_16 fl_X8_56 kl_6 (by decide) rfl io_0 (z := 8) rfl (rf_6_8 hG.1 io_0) (rk_6_8 io_0).1 ?_
  refine s_aload_n dX8_ifDead_19 rfl ?_
  refine s_getr dX8_ifDead_20 fl_X8_32 kl_6 (by decide) rfl io_0 (z := 4) rfl (rf_6_4 hG.1 io_0) (rk_6_4 io_0).1 ?_
  refine s_callV (d' := d - 1) (bc' := 0) (bs' := 0) (as := [_]) dX8_ifDead_23 vf_X8_89 (dd_ (by omega) (by decide)) ⟨Nat.zero_le _, Nat.zero_le _⟩ rfl rfl (Nat.le_of_ble_eq_true rfl) kl_1 rfl (rk_6_8 io_0) ?_
  refine cu_copy (by omega) C (fun h1 S1 => ?_)
  have hG1 := cr_g S1.1
  refine s_aload_n dX8_ifDead_26 rfl ?_
  refine s_getr dX8_ifDead_27 fl_X8_56 kl_6 (by decide) rfl io_0 (z := 8) rfl (rf_6_8 hG1.1 io_0) (rk_6_8 io_0).1 ?_
  refine s_iload_n dX8_ifDead_30 rfl ?_
  refine s_callV (d' := d - 1) (bc' := 0) (bs' := 0) (as := [_]) dX8_ifDead_31 vf_X8_227 (dd_ (by omega) (by decide)) ⟨Nat.zero_le _, Nat.zero_le _⟩ rfl rfl (Nat.le_of_ble_eq_true rfl) kl_1 rfl (rk_6_8 io_0) ?_
  refine cu_dead S1 t0 t1 (fun h2 S2 => ?_)
  have hG2 := cr_g S2.1
  refine s_aload_n dX8_ifDead_34 rfl ?_
  refine s_iload_n dX8_ifDead_35 rfl ?_
  refine s_callV (d' := d - 1) (bc' := 0) (bs' := 0) (as := [_]) dX8_ifDead_36 vf_X8_346 (dd_ (by omega) (by decide)) ⟨Nat.zero_le _, Nat.zero_le _⟩ rfl rfl (Nat.le_of_ble_eq_true rfl) kl_6 rfl io_0 ?_
  refine c_X8_takenAsSupposed (by omega) S2 (zf_fu I.1 (by unfold zok; omega)) p0 p1 (fun h3 C3 f3 => ?_)
  have hG3 := cr_g C3
  exact s_ireturn dX8_ifDead_39 rfl (k p0 p1 t0 t1 st h3 C3 f3)
set_option maxRecDepth 100000 in
set_option maxHeartbeats 4000000 in
theorem c_X8_ifSold {p t v e : Int} (hd : 10 ≤ d) (hbc : 8 ≤ bc) (hbs : 48 ≤ bs) (C : CR_ h z) (hp : inI p) (ht : inI t) (hv : inI v) (he : inI e) (k : 0 ≤ p → p < z 0 1 → 0 ≤ t → t < z 0 0 → (1 ≤ v ∧ v ≤ 9999 ∧ 0 ≤ e ∧ e ≤ v) → z 1 (8 + t) = 0 → z 1 56 + v - e ≤ 99999 → OK_ Q h z (zta (zput z (fsold (z 1) t v e)) p)) (k1 : ¬ ((0 ≤ p ∧ p < z 0 1) ∧ 0 ≤ t ∧ t < z 0 0) → TH_ Q h z IOB) (k2 : 0 ≤ p → p < z 0 1 → 0 ≤ t → t < z 0 0 → ¬ (1 ≤ v ∧ v ≤ 9999 ∧ 0 ≤ e ∧ e ≤ v) → TH_ Q h z IAE) (k3 : 0 ≤ p → p < z 0 1 → 0 ≤ t → t < z 0 0 → (1 ≤ v ∧ v ≤ 9999 ∧ 0 ≤ e ∧ e ≤ v) → ¬ (z 1 (8 + t) = 0 ∧ z 1 56 + v - e ≤ 99999) → TH_ Q h z ISE) : Cl_ yX8_ifSold MX8_ifSold d bc bs [(2, 0), (0, p), (0, t), (0, v), (0, e)] nN h Q := by
  refine s_enter pn_X8 rfl (Nat.le_of_ble_eq_true rfl) (L := [(2, _), (0, _), (0, _), (0, _), (0, _)]) rfl ?_
  have hG := cr_g C
  have I := cr_i C
  obtain ⟨w, hw, W, hwf, P, CN⟩ := cr_w C
  have fc := FC.rf h
  have hT := I.2.1
  have hP := I.2.2.1
  have hN := I.2.2.2.1
  have e1 := C.2.2.2.2.2.2.1.1
  have b50 := (cr_b C).1
  refine s_aload_n dX8_ifSold_0 rfl ?_
  refine s_iload_n dX8_ifSold_1 rfl ?_
  refine s_callV (d' := d - 1) (bc' := 1) (bs' := 6) (as := [_]) dX8_ifSold_2 vf_X8_102 (dd_ (by omega) (by decide)) ⟨by omega, by omega⟩ rfl rfl (Nat.le_of_ble_eq_true rfl) kl_6 rfl io_0 ?_
  refine c_X8_checkPerson (by omega) (by omega) (by omega) C (by assumption) (fun p0 p1 => ?_) (fun e => k1 (by omega) h C (FC.rf h))
  refine s_aload_n dX8_ifSold_5 rfl ?_
  refine s_iload_n dX8_ifSold_6 rfl ?_
  refine s_callV (d' := d - 1) (bc' := 1) (bs' := 6) (as := [_]) dX8_ifSold_7 vf_X8_115 (dd_ (by omega) (by decide)) ⟨by omega, by omega⟩ rfl rfl (Nat.le_of_ble_eq_true rfl) kl_6 rfl io_0 ?_
  refine c_X8_checkThing (by omega) (by omega) (by omega) C (by assumption) (fun t0 t1 => ?_) (fun e => k1 (by omega) h C (FC.rf h))
  refine s_aload_n dX8_ifSold_10 rfl ?_
  refine s_iload_n dX8_ifSold_11 rfl ?_
  refine s_iload_n dX8_ifSold_12 rfl ?_
  refine s_iload dX8_ifSold_13 rfl ?_
  refine s_callV (d' := d - 1) (bc' := 2) (bs' := 12) (as := [_, _, _]) dX8_ifSold_15 vf_X8_194 (dd_ (by omega) (by decide)) ⟨by omega, by omega⟩ rfl rfl (Nat.le_of_ble_eq_true rfl) kl_6 rfl io_0 ?_
  refine c_X8_checkSale (by omega) (by omega) (by omega) C t0 t1 (by assumption) (by assumption) (fun v0 v1 e0 e1 st mo => ?_) (fun e => k2 p0 p1 t0 t1 e h C (FC.rf h)) (fun e e2 => k3 p0 p1 t0 t1 e e2 h C (FC.rf h))
  refine s_aload_n dX8_ifSold_18 rfl ?_
  refine s_getr dX8_ifSold_19 fl_X8_56 kl_6 (by decide) rfl io_0 (z := 8) rfl (rf_6_8 hG.1 io_0) (rk_6_8 io_0).1 ?_
  refine s_aload_n dX8_ifSold_22 rfl ?_
  refine s_getr dX8_ifSold_23 fl_X8_32 kl_6 (by decide) rfl io_0 (z := 4) rfl (rf_6_4 hG.1 io_0) (rk_6_4 io_0).1 ?_
  refine s_callV (d' := d - 1) (bc' := 0) (bs' := 0) (as := [_]) dX8_ifSold_26 vf_X8_89 (dd_ (by omega) (by decide)) ⟨Nat.zero_le _, Nat.zero_le _⟩ rfl rfl (Nat.le_of_ble_eq_true rfl) kl_1 rfl (rk_6_8 io_0) ?_
  refine cu_copy (by omega) C (fun h1 S1 => ?_)
  have hG1 := cr_g S1.1
  refine s_aload_n dX8_ifSold_29 rfl ?_
  refine s_getr dX8_ifSold_30 fl_X8_56 kl_6 (by decide) rfl io_0 (z := 8) rfl (rf_6_8 hG1.1 io_0) (rk_6_8 io_0).1 ?_
  refine s_iload_n dX8_ifSold_33 rfl ?_
  refine s_iload_n dX8_ifSold_34 rfl ?_
  refine s_iload dX8_ifSold_35 rfl ?_
  refine s_callV (d' := d - 1) (bc' := 0) (bs' := 0) (as := [_, _, _]) dX8_ifSold_37 vf_X8_201 (dd_ (by omega) (by decide)) ⟨Nat.zero_le _, Nat.zero_le _⟩ rfl rfl (Nat.le_of_ble_eq_true rfl) kl_1 rfl (rk_6_8 io_0) ?_
  refine cu_sold S1 t0 t1 v0 v1 e0 e1 I.1.2.2.1 (fun h2 S2 => ?_)
  have hG2 := cr_g S2.1
  refine s_aload_n dX8_ifSold_40 rfl ?_
  refine s_iload_n dX8_ifSold_41 rfl ?_
  refine s_callV (d' := d - 1) (bc' := 0) (bs' := 0) (as := [_]) dX8_ifSold_42 vf_X8_346 (dd_ (by omega) (by decide)) ⟨Nat.zero_le _, Nat.zero_le _⟩ rfl rfl (Nat.le_of_ble_eq_true rfl) kl_6 rfl io_0 ?_
  refine c_X8_takenAsSupposed (by omega) S2 (zf_sold I.1 t0 (by omega) v0 v1 e0 e1 mo) p0 p1 (fun h3 C3 f3 => ?_)
  have hG3 := cr_g C3
  exact s_ireturn dX8_ifSold_45 rfl (k p0 p1 t0 t1 ⟨v0, v1, e0, e1⟩ st mo h3 C3 f3)
set_option maxRecDepth 100000 in
set_option maxHeartbeats 4000000 in
theorem c_X8_ifDebt {p v : Int} (hd : 10 ≤ d) (hbc : 8 ≤ bc) (hbs : 48 ≤ bs) (C : CR_ h z) (hp : inI p) (hv : inI v) (k : 0 ≤ p → p < z 0 1 → 0 ≤ v → v ≤ 99999 → OK_ Q h z (zta (zput z (fu_ (z 1) (56 + 1) v)) p)) (k1 : ¬ (0 ≤ p ∧ p < z 0 1) → TH_ Q h z IOB) (k2 : 0 ≤ p → p < z 0 1 → ¬ (0 ≤ v ∧ v ≤ 99999) → TH_ Q h z IAE) : Cl_ yX8_ifDebt MX8_ifDebt d bc bs [(2, 0), (0, p), (0, v)] nN h Q := by
  refine s_enter pn_X8 rfl (Nat.le_of_ble_eq_true rfl) (L := [(2, _), (0, _), (0, _)]) rfl ?_
  have hG := cr_g C
  have I := cr_i C
  obtain ⟨w, hw, W, hwf, P, CN⟩ := cr_w C
  have fc := FC.rf h
  have hT := I.2.1
  have hP := I.2.2.1
  have hN := I.2.2.2.1
  have e1 := C.2.2.2.2.2.2.1.1
  have b50 := (cr_b C).1
  refine s_aload_n dX8_ifDebt_0 rfl ?_
  refine s_iload_n dX8_ifDebt_1 rfl ?_
  refine s_callV (d' := d - 1) (bc' := 1) (bs' := 6) (as := [_]) dX8_ifDebt_2 vf_X8_102 (dd_ (by omega) (by decide)) ⟨by omega, by omega⟩ rfl rfl (Nat.le_of_ble_eq_true rfl) kl_6 rfl io_0 ?_
  refine c_X8_checkPerson (by omega) (by omega) (by omega) C (by assumption) (fun p0 p1 => ?_) (fun e => k1 (by omega) h C (FC.rf h))
  refine s_iload_n dX8_ifDebt_5 rfl ?_
  refine s_if_lt (tgt := 18) dX8_ifDebt_6 (by decide) (by first | exact hG.2 _ _ | exact b01_in _ | assumption | exact ⟨by omega, by omega⟩) (fun c1 => ?_) (fun c1 => ?_)
  · refine s_throwW nh_0 dX8_ifDebt_18 dX8_ifDebt_21 dX8_ifDebt_22 dX8_ifDebt_25 dX8_ifDebt_28 ts_X8_207_349_211 bf_IAE (by omega) (by omega) (by omega) (Nat.le_of_ble_eq_true rfl) ?_
    exact k2 p0 p1 (by omega) h C (FC.rf h)
  · refine s_iload_n dX8_ifDebt_9 rfl ?_
    refine s_getsr dX8_ifDebt_10 (C := "WillHouse") (nm := "MOST_TOLD") (ds := "[I") (ref := "") (z := 1302) (by decide +kernel) fl_X8_243 ?_
    refine s_iconst dX8_ifDebt_13 ?_
    refine s_kiaload dX8_ifDebt_14 (z := 1302) (k := 5) (f := fun i => mtd_.getD i 0) (fun _ _ _ _ K => K.2.2.2.2.2.2.1) (by decide) (by omega) (by omega) (v := 99999) rfl ?_
    refine s_icmp_le (tgt := 29) dX8_ifDebt_15 (by decide) (by first | exact hG.2 _ _ | exact b01_in _ | assumption | exact ⟨by omega, by omega⟩) (by first | exact hG.2 _ _ | exact b01_in _ | assumption | exact ⟨by omega, by omega⟩) (fun c2 => ?_) (fun c2 => ?_)
    · refine s_aload_n dX8_ifDebt_29 rfl ?_
      refine s_getr dX8_ifDebt_30 fl_X8_56 kl_6 (by decide) rfl io_0 (z := 8) rfl (rf_6_8 hG.1 io_0) (rk_6_8 io_0).1 ?_
      refine s_aload_n dX8_ifDebt_33 rfl ?_
      refine s_getr dX8_ifDebt_34 fl_X8_32 kl_6 (by decide) rfl io_0 (z := 4) rfl (rf_6_4 hG.1 io_0) (rk_6_4 io_0).1 ?_
      refine s_callV (d' := d - 1) (bc' := 0) (bs' := 0) (as := [_]) dX8_ifDebt_37 vf_X8_89 (dd_ (by omega) (by decide)) ⟨Nat.zero_le _, Nat.zero_le _⟩ rfl rfl (Nat.le_of_ble_eq_true rfl) kl_1 rfl (rk_6_8 io_0) ?_
      refine cu_copy (by omega) C (fun h1 S1 => ?_)
      have hG1 := cr_g S1.1
      refine s_aload_n dX8_ifDebt_40 rfl ?_
      refine s_getr dX8_ifDebt_41 fl_X8_56 kl_6 (by decide) rfl io_0 (z := 8) rfl (rf_6_8 hG1.1 io_0) (rk_6_8 io_0).1 ?_
      refine s_iconst dX8_ifDebt_44 ?_
      refine s_iload_n dX8_ifDebt_45 rfl ?_
      refine s_callV (d' := d - 1) (bc' := 0) (bs' := 0) (as := [_, _]) dX8_ifDebt_46 vf_X8_248 (dd_ (by omega) (by decide)) ⟨Nat.zero_le _, Nat.zero_le _⟩ rfl rfl (Nat.le_of_ble_eq_true rfl) kl_1 rfl (rk_6_8 io_0) ?_
      refine cu_told S1 (by omega) (by omega) (by omega) (by omega) (fun h2 S2 => ?_)
      have hG2 := cr_g S2.1
      refine s_aload_n dX8_ifDebt_49 rfl ?_
      refine s_iload_n dX8_ifDebt_50 rfl ?_
      refine s_callV (d' := d - 1) (bc' := 0) (bs' := 0) (as := [_]) dX8_ifDebt_51 vf_X8_346 (dd_ (by omega) (by decide)) ⟨Nat.zero_le _, Nat.zero_le _⟩ rfl rfl (Nat.le_of_ble_eq_true rfl) kl_6 rfl io_0 ?_
      refine c_X8_takenAsSupposed (by omega) S2 (zf_fu I.1 (by unfold zok; omega)) p0 p1 (fun h3 C3 f3 => ?_)
      have hG3 := cr_g C3
      exact s_ireturn dX8_ifDebt_54 rfl (k p0 p1 (by omega) (by omega) h3 C3 f3)
    · refine s_throwW nh_0 dX8_ifDebt_18 dX8_ifDebt_21 dX8_ifDebt_22 dX8_ifDebt_25 dX8_ifDebt_28 ts_X8_207_349_211 bf_IAE (by omega) (by omega) (by omega) (Nat.le_of_ble_eq_true rfl) ?_
      exact k2 p0 p1 (by omega) h C (FC.rf h)
set_option maxRecDepth 100000 in
set_option maxHeartbeats 4000000 in
theorem c_X8_ifRenounced {p g : Int} (hd : 10 ≤ d) (hbc : 8 ≤ bc) (hbs : 48 ≤ bs) (C : CR_ h z) (hp : inI p) (hg : inI g) (k : 0 ≤ p → p < z 0 1 → 0 ≤ g → g < z 0 2 → OK_ Q h z (zta (zput z (fu_ (z 1) (44 + g) 1)) p)) (k1 : ¬ ((0 ≤ p ∧ p < z 0 1) ∧ 0 ≤ g ∧ g < z 0 2) → TH_ Q h z IOB) : Cl_ yX8_ifRenounced MX8_ifRenounced d bc bs [(2, 0), (0, p), (0, g)] nN h Q := by
  refine s_enter pn_X8 rfl (Nat.le_of_ble_eq_true rfl) (L := [(2, _), (0, _), (0, _)]) rfl ?_
  have hG := cr_g C
  have I := cr_i C
  obtain ⟨w, hw, W, hwf, P, CN⟩ := cr_w C
  have fc := FC.rf h
  have hT := I.2.1
  have hP := I.2.2.1
  have hN := I.2.2.2.1
  have e1 := C.2.2.2.2.2.2.1.1
  have b50 := (cr_b C).1
  refine s_aload_n dX8_ifRenounced_0 rfl ?_
  refine s_iload_n dX8_ifRenounced_1 rfl ?_
  refine s_callV (d' := d - 1) (bc' := 1) (bs' := 6) (as := [_]) dX8_ifRenounced_2 vf_X8_102 (dd_ (by omega) (by decide)) ⟨by omega, by omega⟩ rfl rfl (Nat.le_of_ble_eq_true rfl) kl_6 rfl io_0 ?_
  refine c_X8_checkPerson (by omega) (by omega) (by omega) C (by assumption) (fun p0 p1 => ?_) (fun e => k1 (by omega) h C (FC.rf h))
  refine s_aload_n dX8_ifRenounced_5 rfl ?_
  refine s_iload_n dX8_ifRenounced_6 rfl ?_
  refine s_callV (d' := d - 1) (bc' := 1) (bs' := 6) (as := [_]) dX8_ifRenounced_7 vf_X8_168 (dd_ (by omega) (by decide)) ⟨by omega, by omega⟩ rfl rfl (Nat.le_of_ble_eq_true rfl) kl_6 rfl io_0 ?_
  refine c_X8_checkGift (by omega) (by omega) (by omega) C (by assumption) (fun g0 g1 => ?_) (fun e => k1 (by omega) h C (FC.rf h))
  refine s_aload_n dX8_ifRenounced_10 rfl ?_
  refine s_getr dX8_ifRenounced_11 fl_X8_56 kl_6 (by decide) rfl io_0 (z := 8) rfl (rf_6_8 hG.1 io_0) (rk_6_8 io_0).1 ?_
  refine s_aload_n dX8_ifRenounced_14 rfl ?_
  refine s_getr dX8_ifRenounced_15 fl_X8_32 kl_6 (by decide) rfl io_0 (z := 4) rfl (rf_6_4 hG.1 io_0) (rk_6_4 io_0).1 ?_
  refine s_callV (d' := d - 1) (bc' := 0) (bs' := 0) (as := [_]) dX8_ifRenounced_18 vf_X8_89 (dd_ (by omega) (by decide)) ⟨Nat.zero_le _, Nat.zero_le _⟩ rfl rfl (Nat.le_of_ble_eq_true rfl) kl_1 rfl (rk_6_8 io_0) ?_
  refine cu_copy (by omega) C (fun h1 S1 => ?_)
  have hG1 := cr_g S1.1
  refine s_aload_n dX8_ifRenounced_21 rfl ?_
  refine s_getr dX8_ifRenounced_22 fl_X8_56 kl_6 (by decide) rfl io_0 (z := 8) rfl (rf_6_8 hG1.1 io_0) (rk_6_8 io_0).1 ?_
  refine s_iload_n dX8_ifRenounced_25 rfl ?_
  refine s_iconst dX8_ifRenounced_26 ?_
  refine s_callV (d' := d - 1) (bc' := 0) (bs' := 0) (as := [_, _]) dX8_ifRenounced_27 vf_X8_237 (dd_ (by omega) (by decide)) ⟨Nat.zero_le _, Nat.zero_le _⟩ rfl rfl (Nat.le_of_ble_eq_true rfl) kl_1 rfl (rk_6_8 io_0) ?_
  refine cu_renounced S1 g0 g1 (by omega) (fun h2 S2 => ?_)
  have hG2 := cr_g S2.1
  refine s_aload_n dX8_ifRenounced_30 rfl ?_
  refine s_iload_n dX8_ifRenounced_31 rfl ?_
  refine s_callV (d' := d - 1) (bc' := 0) (bs' := 0) (as := [_]) dX8_ifRenounced_32 vf_X8_346 (dd_ (by omega) (by decide)) ⟨Nat.zero_le _, Nat.zero_le _⟩ rfl rfl (Nat.le_of_ble_eq_true rfl) kl_6 rfl io_0 ?_
  refine c_X8_takenAsSupposed (by omega) S2 (zf_fu I.1 (by unfold zok; omega)) p0 p1 (fun h3 C3 f3 => ?_)
  have hG3 := cr_g C3
  exact s_ireturn dX8_ifRenounced_35 rfl (k p0 p1 g0 g1 h3 C3 f3)
set_option maxRecDepth 100000 in
set_option maxHeartbeats 4000000 in
theorem c_X8_ifHeld {g : Int} (hd : 10 ≤ d) (hbc : 8 ≤ bc) (hbs : 48 ≤ bs) (C : CR_ h z) (hg : inI g) (k : 0 ≤ g → g < z 0 2 → ¬ z 7 g = -1 → OK_ Q h z (sumI (zgt (zput z (fu_ (z 1) (8 + z 7 g) 0)) g) 0 7)) (k1 : ¬ (0 ≤ g ∧ g < z 0 2) → TH_ Q h z IOB) (k2 : 0 ≤ g → g < z 0 2 → z 7 g = -1 → TH_ Q h z IAE) : Cl_ yX8_ifHeld MX8_ifHeld d bc bs [(2, 0), (0, g)] nN h Q := by
  refine s_enter pn_X8 rfl (Nat.le_of_ble_eq_true rfl) (L := [(2, _), (0, _), (9, 0)]) rfl ?_
  have hG := cr_g C
  have I := cr_i C
  obtain ⟨w, hw, W, hwf, P, CN⟩ := cr_w C
  have fc := FC.rf h
  have hT := I.2.1
  have hP := I.2.2.1
  have hN := I.2.2.2.1
  have e1 := C.2.2.2.2.2.2.1.1
  have b50 := (cr_b C).1
  have z0 : zput z (fu_ (z 1) (8 + z 7 g) 0) 0 = z 0 := zput_ne (by omega)
  refine s_aload_n dX8_ifHeld_0 rfl ?_
  refine s_iload_n dX8_ifHeld_1 rfl ?_
  refine s_callV (d' := d - 1) (bc' := 1) (bs' := 6) (as := [_]) dX8_ifHeld_2 vf_X8_168 (dd_ (by omega) (by decide)) ⟨by omega, by omega⟩ rfl rfl (Nat.le_of_ble_eq_true rfl) kl_6 rfl io_0 ?_
  refine c_X8_checkGift (by omega) (by omega) (by omega) C (by assumption) (fun g0 g1 => ?_) (fun e => k1 (by omega) h C (FC.rf h))
  have bg := I.2.2.2.2.2 g g0 g1
  have bt := bg.2.2.1
  have bt2 := bg.2.2.2.1
  refine s_aload_n dX8_ifHeld_5 rfl ?_
  refine s_getr dX8_ifHeld_6 fl_X8_25 kl_6 (by decide) rfl io_0 (z := 3) rfl (by first | exact hw | (simp (disch := omega) only [hs_same, hs_ne, fl_in, fl_ne, cp_inn, cp_nee]; exact hw)) (W).1 ?_
  refine s_getr dX8_ifHeld_9 fl_X8_177 kl_5 (by decide) rfl W (z := 10) rfl (rf_5_10 hG.1 W) (rk_5_10 W).1 ?_
  refine s_iload_n dX8_ifHeld_12 rfl ?_
  refine s_iaload dX8_ifHeld_13 (rk_5_10 W) (by omega) (by omega) ?_
  rw [(P.2.2.2 g g0 g1).2.2.1]
  refine s_istore_n dX8_ifHeld_14 (by decide) rfl (L' := [_, _, _]) rfl ?_
  refine s_iload_n dX8_ifHeld_15 rfl ?_
  refine s_iconst dX8_ifHeld_16 ?_
  refine s_icmp_ne (tgt := 31) dX8_ifHeld_17 (by decide) (by first | exact hG.2 _ _ | exact b01_in _ | assumption | exact ⟨by omega, by omega⟩) (by first | exact hG.2 _ _ | exact b01_in _ | assumption | exact ⟨by omega, by omega⟩) (fun c1 => ?_) (fun c1 => ?_)
  · refine s_aload_n dX8_ifHeld_31 rfl ?_
    refine s_getr dX8_ifHeld_32 fl_X8_56 kl_6 (by decide) rfl io_0 (z := 8) rfl (rf_6_8 hG.1 io_0) (rk_6_8 io_0).1 ?_
    refine s_aload_n dX8_ifHeld_35 rfl ?_
    refine s_getr dX8_ifHeld_36 fl_X8_32 kl_6 (by decide) rfl io_0 (z := 4) rfl (rf_6_4 hG.1 io_0) (rk_6_4 io_0).1 ?_
    refine s_callV (d' := d - 1) (bc' := 0) (bs' := 0) (as := [_]) dX8_ifHeld_39 vf_X8_89 (dd_ (by omega) (by decide)) ⟨Nat.zero_le _, Nat.zero_le _⟩ rfl rfl (Nat.le_of_ble_eq_true rfl) kl_1 rfl (rk_6_8 io_0) ?_
    refine cu_copy (by omega) C (fun h1 S1 => ?_)
    have hG1 := cr_g S1.1
    refine s_aload_n dX8_ifHeld_42 rfl ?_
    refine s_getr dX8_ifHeld_43 fl_X8_56 kl_6 (by decide) rfl io_0 (z := 8) rfl (rf_6_8 hG1.1 io_0) (rk_6_8 io_0).1 ?_
    refine s_iload_n dX8_ifHeld_46 rfl ?_
    refine s_callV (d' := d - 1) (bc' := 0) (bs' := 0) (as := [_]) dX8_ifHeld_47 vf_X8_353 (dd_ (by omega) (by decide)) ⟨Nat.zero_le _, Nat.zero_le _⟩ rfl rfl (Nat.le_of_ble_eq_true rfl) kl_1 rfl (rk_6_8 io_0) ?_
    refine cu_held S1 (by omega) (by omega) (fun h2 S2 => ?_)
    have hG2 := cr_g S2.1
    obtain ⟨w, hw, W, hwf, P, CN⟩ := cr_w S2.1
    have ef : h2 (0 + 148) 15 = 0 + 146 := rf_at hG2.1 (a := 148) (k := 15) (b := 146) (by decide +kernel)
    have hF : ZF (fun _ => (fu_ (z 1) (8 + z 7 g) 0)) := zf_fu I.1 (by unfold zok; omega)
    refine s_aload_n dX8_ifHeld_50 rfl ?_
    refine s_getr dX8_ifHeld_51 fl_X8_59 kl_6 (by decide) rfl io_0 (z := 9) rfl (rf_6_9 hG2.1 io_0) (rk_6_9 io_0).1 ?_
    refine s_aload_n dX8_ifHeld_54 rfl ?_
    refine s_getr dX8_ifHeld_55 fl_X8_25 kl_6 (by decide) rfl io_0 (z := 3) rfl (by first | exact hw | (simp (disch := omega) only [hs_same, hs_ne, fl_in, fl_ne, cp_inn, cp_nee]; exact hw)) (W).1 ?_
    refine s_callV (d' := d - 1) (bc' := 0) (bs' := 0) (as := [_]) dX8_ifHeld_58 vf_X8_356 (dd_ (by omega) (by decide)) ⟨Nat.zero_le _, Nat.zero_le _⟩ rfl rfl (Nat.le_of_ble_eq_true rfl) kl_4 rfl (rk_6_9 io_0) ?_
    refine c_X5_reckon (by omega) (rk_6_9 io_0) W (rk_6_8 io_0) (by omega) ef (pr_su S2 P) (zi_put I hF) hG2 (fun h3 hG3 fr3 w3 rd3 => ?_)
    refine s_aload_n dX8_ifHeld_61 rfl ?_
    refine s_getr dX8_ifHeld_62 fl_X8_59 kl_6 (by decide) rfl io_0 (z := 9) rfl (rf_6_9 hG3.1 io_0) (rk_6_9 io_0).1 ?_
    refine s_iload_n dX8_ifHeld_65 rfl ?_
    refine s_iconst dX8_ifHeld_66 ?_
    refine s_bipush dX8_ifHeld_67 (by decide) ?_
    refine s_callV (d' := d - 1) (bc' := 0) (bs' := 0) (as := [_, _, _]) dX8_ifHeld_69 vf_X8_292 (dd_ (by omega) (by decide)) ⟨Nat.zero_le _, Nat.zero_le _⟩ rfl rfl (Nat.le_of_ble_eq_true rfl) kl_4 rfl (rk_6_9 io_0) ?_
    refine c_X5_gotIn (by omega) (rk_6_9 io_0) hG3 (by omega) (by omega) (by omega) (by omega) (by omega) ?_
    rw [sumI_congr (g := zgt (zput z (fu_ (z 1) (8 + z 7 g) 0)) g) _ _ (fun c y0 y1 => (rd3.2.2.2.1 g c g0 (by rw [z0]; exact g1) y0 (by omega)).2), show (6 + 1 - 0 : Int).toNat = 7 by rfl]
    exact s_ireturn dX8_ifHeld_72 rfl (k g0 g1 (by omega) h3 (cr_sup S2.1 hG3 (fun x y hx => fr3 x y (by omega))) (S2.2.1.tr (fun x y hx => fr3 x y (by omega))))
  · refine s_throwW nh_0 dX8_ifHeld_20 dX8_ifHeld_23 dX8_ifHeld_24 dX8_ifHeld_27 dX8_ifHeld_30 ts_X8_207_351_211 bf_IAE (by omega) (by omega) (by omega) (Nat.le_of_ble_eq_true rfl) ?_
    exact k2 g0 g1 (by omega) h C (FC.rf h)
noncomputable def ev_ (sk : Int → Prop) (f : Int → Int) : Nat → Int → Int → Int → Int
  | 0, _, b, _ => b
  | m + 1, p, b, v => @ite _ (sk p) (Classical.propDecidable _) (ev_ sk f m (p + 1) b v) (if v < f p then ev_ sk f m (p + 1) p (f p) else ev_ sk f m (p + 1) b v)
theorem ev_s {sk : Int → Prop} {f : Int → Int} {m : Nat} {p b v : Int} (h : sk p) : ev_ sk f (m + 1) p b v = ev_ sk f m (p + 1) b v := by
  rw [ev_, if_pos h]
theorem ev_t {sk : Int → Prop} {f : Int → Int} {m : Nat} {p b v : Int} (h : ¬ sk p) (e : v < f p) : ev_ sk f (m + 1) p b v = ev_ sk f m (p + 1) p (f p) := by
  rw [ev_, if_neg h, if_pos e]
theorem ev_f {sk : Int → Prop} {f : Int → Int} {m : Nat} {p b v : Int} (h : ¬ sk p) (e : ¬ v < f p) : ev_ sk f (m + 1) p b v = ev_ sk f m (p + 1) b v := by
  rw [ev_, if_neg h, if_neg e]
/-- what p would take if q had died -/
noncomputable def zifd (z : PH) (p q : Int) : Int := zta (zput z (fu_ (z 1) (32 + q) 1)) p
noncomputable def zenv (z : PH) (p : Int) : Int := ev_ (fun q => q = p ∨ ¬ z 1 (32 + q) = 0) (zifd z p) (z 0 1).toNat 0 (-1) (-1)
set_option maxRecDepth 100000 in
set_option maxHeartbeats 4000000 in
theorem lp_X8_envied  {z h0 : PH} (hd : 10 ≤ d) {p : Int} (p0 : 0 ≤ p) (p1 : p < z 0 1) (k : OK_ Q h0 z (zenv z p)) : ∀ (m : Nat) (i b v : Int) (h : PH), (0 ≤ i) → (i + m = z 0 1) → (-1 ≤ v ∧ v ≤ 100000000) → (zenv z p = ev_ (fun q => q = p ∨ ¬ z 1 (32 + q) = 0) (zifd z p) m i b v) → (CR_ h z) → (FC h0 h) → S_ MX8_envied d bc bs Q 12 [(2, 0), (0, p), (0, b), (0, v), (0, i), (9, 0)] [] nN h := by
  intro m
  induction m with
  | zero =>
    intro i b v h i0 i1 hv ek C fc
    have hG := cr_g C
    have I := cr_i C
    obtain ⟨w, hw, W, hwf, P, CN⟩ := cr_w C
    have hT := I.2.1
    have hP := I.2.2.1
    have hN := I.2.2.2.1
    have e1 := C.2.2.2.2.2.2.1.1
    have b50 := (cr_b C).1
    have eP := P.1.2.1
    refine s_iload dX8_envied_12 rfl ?_
    refine s_aload_n dX8_envied_14 rfl ?_
    refine s_getr dX8_envied_15 fl_X8_25 kl_6 (by decide) rfl io_0 (z := 3) rfl (by first | exact hw | (simp (disch := omega) only [hs_same, hs_ne, fl_in, fl_ne, cp_inn, cp_nee]; exact hw)) (W).1 ?_
    refine s_getr dX8_envied_18 fl_X8_105 kl_5 (by decide) rfl W (z := 3) rfl (rf_5_3 hG.1 W) (rk_5_3 W).1 ?_
    refine s_geti dX8_envied_21 fl_X8_339 kl_2 (by decide) rfl (rk_5_3 W) (z := 1) rfl ?_
    refine s_icmp_ge (tgt := 90) dX8_envied_24 (by decide) (by first | exact hG.2 _ _ | exact b01_in _ | assumption | exact ⟨by omega, by omega⟩) (by first | exact hG.2 _ _ | exact b01_in _ | assumption | exact ⟨by omega, by omega⟩) (fun c1 => ?_) (fun c1 => ?_)
    · refine s_iload_n dX8_envied_90 rfl ?_
      have k2 := k _ C fc
      rw [ek] at k2
      exact s_ireturn dX8_envied_91 rfl k2
    · exact absurd c1 (by omega)
  | succ m ih =>
    intro i b v h i0 i1 hv ek C fc
    have hG := cr_g C
    have I := cr_i C
    obtain ⟨w, hw, W, hwf, P, CN⟩ := cr_w C
    have hT := I.2.1
    have hP := I.2.2.1
    have hN := I.2.2.2.1
    have e1 := C.2.2.2.2.2.2.1.1
    have b50 := (cr_b C).1
    have eP := P.1.2.1
    refine s_iload dX8_envied_12 rfl ?_
    refine s_aload_n dX8_envied_14 rfl ?_
    refine s_getr dX8_envied_15 fl_X8_25 kl_6 (by decide) rfl io_0 (z := 3) rfl (by first | exact hw | (simp (disch := omega) only [hs_same, hs_ne, fl_in, fl_ne, cp_inn, cp_nee]; exact hw)) (W).1 ?_
    refine s_getr dX8_envied_18 fl_X8_105 kl_5 (by decide) rfl W (z := 3) rfl (rf_5_3 hG.1 W) (rk_5_3 W).1 ?_
    refine s_geti dX8_envied_21 fl_X8_339 kl_2 (by decide) rfl (rk_5_3 W) (z := 1) rfl ?_
    refine s_icmp_ge (tgt := 90) dX8_envied_24 (by decide) (by first | exact hG.2 _ _ | exact b01_in _ | assumption | exact ⟨by omega, by omega⟩) (by first | exact hG.2 _ _ | exact b01_in _ | assumption | exact ⟨by omega, by omega⟩) (fun c1 => ?_) (fun c1 => ?_)
    · exact absurd c1 (by omega)
    · refine s_iload dX8_envied_27 rfl ?_
      refine s_iload_n dX8_envied_29 rfl ?_
      refine s_icmp_eq (tgt := 84) dX8_envied_30 (by decide) (by first | exact hG.2 _ _ | exact b01_in _ | assumption | exact ⟨by omega, by omega⟩) (by first | exact hG.2 _ _ | exact b01_in _ | assumption | exact ⟨by omega, by omega⟩) (fun c2 => ?_) (fun c2 => ?_)
      · refine s_iinc dX8_envied_84 rfl (by decide) rfl (L' := [_, _, _, _, _, _]) rfl ?_
        refine s_goto (tgt := 12) dX8_envied_87 (by decide) ?_
        refine s_fg (L' := [(2, 0), (0, p), (0, _), (0, _), (0, _), (9, 0)]) ⟨Or.inr rfl, Or.inr rfl, Or.inr rfl, Or.inr rfl, Or.inr rfl, Or.inl rfl, trivial⟩ ?_
        exact ih (i + 1) b v _ (by omega) (by omega) hv (by rw [ek]; exact ev_s (Or.inl (by omega))) C fc
      · refine s_aload_n dX8_envied_33 rfl ?_
        refine s_getr dX8_envied_34 fl_X8_32 kl_6 (by decide) rfl io_0 (z := 4) rfl (rf_6_4 hG.1 io_0) (rk_6_4 io_0).1 ?_
        refine s_iload dX8_envied_37 rfl ?_
        refine s_callV (d' := d - 1) (bc' := 0) (bs' := 0) (as := [_]) dX8_envied_39 vf_X8_156 (dd_ (by omega) (by decide)) ⟨Nat.zero_le _, Nat.zero_le _⟩ rfl rfl (Nat.le_of_ble_eq_true rfl) kl_1 rfl (rk_6_4 io_0) ?_
        refine c_X2_isDead (rk_6_4 io_0) hG (by omega) (by omega) ?_
        rw [P.2.1 _ (by omega) (by omega)]
        refine s_if_ne (tgt := 84) dX8_envied_42 (by decide) (by first | exact hG.2 _ _ | exact b01_in _ | assumption | exact ⟨by omega, by omega⟩) (fun c3 => ?_) (fun c3 => ?_)
        · have c3 := b01_n.mp c3
          refine s_iinc dX8_envied_84 rfl (by decide) rfl (L' := [_, _, _, _, _, _]) rfl ?_
          refine s_goto (tgt := 12) dX8_envied_87 (by decide) ?_
          refine s_fg (L' := [(2, 0), (0, p), (0, _), (0, _), (0, _), (9, 0)]) ⟨Or.inr rfl, Or.inr rfl, Or.inr rfl, Or.inr rfl, Or.inr rfl, Or.inl rfl, trivial⟩ ?_
          exact ih (i + 1) b v _ (by omega) (by omega) hv (by rw [ek]; exact ev_s (Or.inr c3)) C fc
        · have c3 := b01_0.mp c3
          refine s_aload_n dX8_envied_45 rfl ?_
          refine s_getr dX8_envied_46 fl_X8_56 kl_6 (by decide) rfl io_0 (z := 8) rfl (rf_6_8 hG.1 io_0) (rk_6_8 io_0).1 ?_
          refine s_aload_n dX8_envied_49 rfl ?_
          refine s_getr dX8_envied_50 fl_X8_32 kl_6 (by decide) rfl io_0 (z := 4) rfl (rf_6_4 hG.1 io_0) (rk_6_4 io_0).1 ?_
          refine s_callV (d' := d - 1) (bc' := 0) (bs' := 0) (as := [_]) dX8_envied_53 vf_X8_89 (dd_ (by omega) (by decide)) ⟨Nat.zero_le _, Nat.zero_le _⟩ rfl rfl (Nat.le_of_ble_eq_true rfl) kl_1 rfl (rk_6_8 io_0) ?_
          refine cu_copy (by omega) C (fun h1 S1 => ?_)
          have hG1 := cr_g S1.1
          refine s_aload_n dX8_envied_56 rfl ?_
          refine s_getr dX8_envied_57 fl_X8_56 kl_6 (by decide) rfl io_0 (z := 8) rfl (rf_6_8 hG1.1 io_0) (rk_6_8 io_0).1 ?_
          refine s_iload dX8_envied_60 rfl ?_
          refine s_callV (d' := d - 1) (bc' := 0) (bs' := 0) (as := [_]) dX8_envied_62 vf_X8_227 (dd_ (by omega) (by decide)) ⟨Nat.zero_le _, Nat.zero_le _⟩ rfl rfl (Nat.le_of_ble_eq_true rfl) kl_1 rfl (rk_6_8 io_0) ?_
          refine cu_dead S1 i0 (by omega) (fun h2 S2 => ?_)
          have hG2 := cr_g S2.1
          refine s_aload_n dX8_envied_65 rfl ?_
          refine s_iload_n dX8_envied_66 rfl ?_
          refine s_callV (d' := d - 1) (bc' := 0) (bs' := 0) (as := [_]) dX8_envied_67 vf_X8_346 (dd_ (by omega) (by decide)) ⟨Nat.zero_le _, Nat.zero_le _⟩ rfl rfl (Nat.le_of_ble_eq_true rfl) kl_6 rfl io_0 ?_
          have hF : ZF (fun _ => fu_ (z 1) (32 + i) 1) := zf_fu I.1 (by unfold zok; omega)
          have bt := zta_bd (zi_put I hF) p0 (by rw [zput_ne (by omega)]; exact p1)
          refine c_X8_takenAsSupposed (by omega) ⟨S2.1, fc.tr S2.2.1, S2.2.2⟩ hF p0 p1 (fun h3 C3 f3 => ?_)
          have hG3 := cr_g C3
          refine s_istore dX8_envied_70 (by decide) rfl (L' := [_, _, _, _, _, _]) rfl ?_
          refine s_iload dX8_envied_72 rfl ?_
          refine s_iload_n dX8_envied_74 rfl ?_
          refine s_icmp_le (tgt := 84) dX8_envied_75 (by decide) (by first | exact hG3.2 _ _ | exact hG.2 _ _ | exact b01_in _ | assumption | exact ⟨by omega, by omega⟩) (by first | exact hG3.2 _ _ | exact hG.2 _ _ | exact b01_in _ | assumption | exact ⟨by omega, by omega⟩) (fun c4 => ?_) (fun c4 => ?_)
          · refine s_iinc dX8_envied_84 rfl (by decide) rfl (L' := [_, _, _, _, _, _]) rfl ?_
            refine s_goto (tgt := 12) dX8_envied_87 (by decide) ?_
            refine s_fg (L' := [(2, 0), (0, p), (0, _), (0, _), (0, _), (9, 0)]) ⟨Or.inr rfl, Or.inr rfl, Or.inr rfl, Or.inr rfl, Or.inr rfl, Or.inl rfl, trivial⟩ ?_
            exact ih (i + 1) b v _ (by omega) (by omega) hv (by rw [ek]; exact ev_f (fun q => q.elim (by omega) c3) (by unfold zifd; omega)) C3 f3
          · refine s_iload dX8_envied_78 rfl ?_
            refine s_istore_n dX8_envied_80 (by decide) rfl (L' := [_, _, _, _, _, _]) rfl ?_
            refine s_iload dX8_envied_81 rfl ?_
            refine s_istore_n dX8_envied_83 (by decide) rfl (L' := [_, _, _, _, _, _]) rfl ?_
            refine s_iinc dX8_envied_84 rfl (by decide) rfl (L' := [_, _, _, _, _, _]) rfl ?_
            refine s_goto (tgt := 12) dX8_envied_87 (by decide) ?_
            refine s_fg (L' := [(2, 0), (0, p), (0, _), (0, _), (0, _), (9, 0)]) ⟨Or.inr rfl, Or.inr rfl, Or.inr rfl, Or.inr rfl, Or.inr rfl, Or.inl rfl, trivial⟩ ?_
            exact ih (i + 1) i (zifd z p i) _ (by omega) (by omega) (by unfold zifd; omega) (by rw [ek]; exact ev_t (fun q => q.elim (by omega) c3) (by unfold zifd; omega)) C3 f3
set_option maxRecDepth 100000 in
set_option maxHeartbeats 4000000 in
theorem c_X8_envied {p : Int} (hd : 10 ≤ d) (hbc : 8 ≤ bc) (hbs : 48 ≤ bs) (C : CR_ h z) (hp : inI p) (k : 0 ≤ p → p < z 0 1 → OK_ Q h z (zenv z p)) (k1 : ¬ (0 ≤ p ∧ p < z 0 1) → TH_ Q h z IOB) : Cl_ yX8_envied MX8_envied d bc bs [(2, 0), (0, p)] nN h Q := by
  refine s_enter pn_X8 rfl (Nat.le_of_ble_eq_true rfl) (L := [(2, _), (0, _), (9, 0), (9, 0), (9, 0), (9, 0)]) rfl ?_
  have hG := cr_g C
  have I := cr_i C
  obtain ⟨w, hw, W, hwf, P, CN⟩ := cr_w C
  have fc := FC.rf h
  have hT := I.2.1
  have hP := I.2.2.1
  have hN := I.2.2.2.1
  have e1 := C.2.2.2.2.2.2.1.1
  have b50 := (cr_b C).1
  refine s_aload_n dX8_envied_0 rfl ?_
  refine s_iload_n dX8_envied_1 rfl ?_
  refine s_callV (d' := d - 1) (bc' := 1) (bs' := 6) (as := [_]) dX8_envied_2 vf_X8_102 (dd_ (by omega) (by decide)) ⟨by omega, by omega⟩ rfl rfl (Nat.le_of_ble_eq_true rfl) kl_6 rfl io_0 ?_
  refine c_X8_checkPerson (by omega) (by omega) (by omega) C (by assumption) (fun p0 p1 => ?_) (fun e => k1 (by omega) h C (FC.rf h))
  refine s_iconst dX8_envied_5 ?_
  refine s_istore_n dX8_envied_6 (by decide) rfl (L' := [_, _, _, _, _, _]) rfl ?_
  refine s_iconst dX8_envied_7 ?_
  refine s_istore_n dX8_envied_8 (by decide) rfl (L' := [_, _, _, _, _, _]) rfl ?_
  refine s_iconst dX8_envied_9 ?_
  refine s_istore dX8_envied_10 (by decide) rfl (L' := [_, _, _, _, _, _]) rfl ?_
  exact lp_X8_envied hd p0 p1 (k p0 p1) (z 0 1).toNat 0 _ _ h (Int.le_refl _) (by omega) (by omega) rfl C fc
end X8G
