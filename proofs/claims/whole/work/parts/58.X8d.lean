/-! WillHouse: what only tells, the rest -/
section X8D
variable {d bc bs : Nat} {Q : PQ} {h z : PH}
theorem fs_t {f : Int → Int} {k p : Int} {m : Nat} (e : f p = k) : fs_ f k (m + 1) p = p := by
  rw [fs_, if_pos e]
theorem fs_f {f : Int → Int} {k p : Int} {m : Nat} (e : ¬ f p = k) : fs_ f k (m + 1) p = fs_ f k m (p + 1) := by
  rw [fs_, if_neg e]
theorem zah_bd {z : PH} (I : ZI z) (p : Int) : 0 ≤ zah z p ∧ zah z p ≤ 12 := by
  have hP := I.2.2.1
  have s0 := sumI_nonneg (f := fun q => if zta z p < zta z q ∨ (zta z q = zta z p ∧ q < p) then (1 : Int) else 0) (z 0 1).toNat 0 (fun c c0 c1 => by split <;> omega)
  have s1 := sumI_le (f := fun q => if zta z p < zta z q ∨ (zta z q = zta z p ∧ q < p) then (1 : Int) else 0) (b := 1) (z 0 1).toNat 0 (fun c c0 c1 => by split <;> omega)
  unfold zah
  omega
set_option maxRecDepth 100000 in
set_option maxHeartbeats 4000000 in
theorem c_X8_itself {g : Int} (hd : 10 ≤ d) (hbc : 8 ≤ bc) (hbs : 48 ≤ bs) (C : CR_ h z) (hg : inI g) (k : 0 ≤ g → g < z 0 2 → z 5 g = 0 → OK_ Q h z (zitself z g)) (k1 : ¬ (0 ≤ g ∧ g < z 0 2) → TH_ Q h z IOB) (k2 : 0 ≤ g → g < z 0 2 → ¬ z 5 g = 0 → TH_ Q h z IAE) : Cl_ yX8_itself MX8_itself d bc bs [(2, 0), (0, g)] nN h Q := by
  refine s_enter pn_X8 rfl (Nat.le_of_ble_eq_true rfl) (L := [(2, _), (0, _)]) rfl ?_
  have hG := cr_g C
  have I := cr_i C
  obtain ⟨w, hw, W, hwf, P, CN⟩ := cr_w C
  have fc := FC.rf h
  have hT := I.2.1
  have hP := I.2.2.1
  have hN := I.2.2.2.1
  refine s_aload_n dX8_itself_0 rfl ?_
  refine s_iload_n dX8_itself_1 rfl ?_
  refine s_callV (d' := d - 1) (bc' := 1) (bs' := 6) (as := [_]) dX8_itself_2 vf_X8_168 (dd_ (by omega) (by decide)) ⟨by omega, by omega⟩ rfl rfl (Nat.le_of_ble_eq_true rfl) kl_6 rfl io_0 ?_
  refine c_X8_checkGift (by omega) (by omega) (by omega) C (by assumption) (fun g0 g1 => ?_) (fun e => k1 (by omega) h C (FC.rf h))
  have bg := I.2.2.2.2.2 g g0 g1
  have bt := bg.2.2.1
  refine s_aload_n dX8_itself_5 rfl ?_
  refine s_getr dX8_itself_6 fl_X8_25 kl_6 (by decide) rfl io_0 (z := 3) rfl (by first | exact hw | (simp (disch := omega) only [hs_same, hs_ne, fl_in, fl_ne, cp_inn, cp_nee]; exact hw)) (W).1 ?_
  refine s_getr dX8_itself_9 fl_X8_171 kl_5 (by decide) rfl W (z := 8) rfl (rf_5_8 hG.1 W) (rk_5_8 W).1 ?_
  refine s_iload_n dX8_itself_12 rfl ?_
  
  refine s_iaload dX8_itself_13 (rk_5_8 W) (by omega) (by omega) ?_
  rw [(P.2.2.2 g g0 g1).1]
  refine s_if_eq (tgt := 28) dX8_itself_14 (by decide) (by first | exact hG.2 _ _ | exact b01_in _ | assumption | exact ⟨by omega, by omega⟩) (fun c1 => ?_) (fun c1 => ?_)
  · refine s_aload_n dX8_itself_28 rfl ?_
    refine s_callV (d' := d - 1) (bc' := 0) (bs' := 0) (as := []) dX8_itself_29 vf_X8_159 (dd_ (by omega) (by decide)) ⟨Nat.zero_le _, Nat.zero_le _⟩ rfl rfl (Nat.le_of_ble_eq_true rfl) kl_6 rfl io_0 ?_
    refine c_X8_reckoning (by omega) C (fun hh hG1 C st fc2 => ?_)
    have fc := fc.tr fc2
    obtain ⟨w, hw, W, hwf, P, CN⟩ := cr_w C
    have RD := cr_rd C st
    have hr := cr_rw C st hw
    have eN := P.1.2.2
    refine s_getr dX8_itself_32 fl_X8_186 kl_4 (by decide) rfl (rk_6_6 io_0) (z := 1) rfl (rf_4_1 hG1.1 (rk_6_6 io_0)) (rk_4_1 (rk_6_6 io_0)).1 ?_
    refine s_iload_n dX8_itself_35 rfl ?_
    refine s_baload2 dX8_itself_36 (rk_4_1 (rk_6_6 io_0)) (by omega) (by omega) ?_
    try simp (disch := omega) only [hs_same, hs_ne, fl_in, fl_ne, cp_inn, cp_nee]
    rw [RD.2.1 g g0 g1]
    refine s_if_ne (tgt := 73) dX8_itself_37 (by decide) (by first | exact hG1.2 _ _ | exact hG.2 _ _ | exact b01_in _ | assumption | exact ⟨by omega, by omega⟩) (fun c2 => ?_) (fun c2 => ?_)
    · refine s_iconst dX8_itself_73 ?_
      have k9 := k g0 g1 (by omega) _ C fc
      unfold zitself at k9
      first
        | (rw [b01_t (by omega)] at k9; exact s_zreturn dX8_itself_74 rfl (by first | exact Or.inl rfl | exact Or.inr rfl) k9)
        | (rw [b01_f (by omega)] at k9; exact s_zreturn dX8_itself_74 rfl (by first | exact Or.inl rfl | exact Or.inr rfl) k9)
    · refine s_aload_n dX8_itself_40 rfl ?_
      refine s_getr dX8_itself_41 fl_X8_32 kl_6 (by decide) rfl io_0 (z := 4) rfl (rf_6_4 hG1.1 io_0) (rk_6_4 io_0).1 ?_
      refine s_aload_n dX8_itself_44 rfl ?_
      refine s_getr dX8_itself_45 fl_X8_25 kl_6 (by decide) rfl io_0 (z := 3) rfl (by first | exact hw | (simp (disch := omega) only [hs_same, hs_ne, fl_in, fl_ne, cp_inn, cp_nee]; exact hw)) (W).1 ?_
      refine s_getr dX8_itself_48 fl_X8_177 kl_5 (by decide) rfl W (z := 10) rfl (rf_5_10 hG1.1 W) (rk_5_10 W).1 ?_
      refine s_iload_n dX8_itself_51 rfl ?_
      refine s_iaload dX8_itself_52 (rk_5_10 W) (by omega) (by omega) ?_
      try simp (disch := omega) only [hs_same, hs_ne, fl_in, fl_ne, cp_inn, cp_nee]
      rw [(P.2.2.2 g g0 g1).2.2.1]
      refine s_callV (d' := d - 1) (bc' := 0) (bs' := 0) (as := [_]) dX8_itself_53 vf_X8_131 (dd_ (by omega) (by decide)) ⟨Nat.zero_le _, Nat.zero_le _⟩ rfl rfl (Nat.le_of_ble_eq_true rfl) kl_1 rfl (rk_6_4 io_0) ?_
      refine c_X2_isHeld (rk_6_4 io_0) hG1 (by omega) (by omega) ?_
      rw [P.2.1 _ (by omega) (by omega)]
      refine s_if_eq (tgt := 73) dX8_itself_56 (by decide) (by first | exact hG1.2 _ _ | exact hG.2 _ _ | exact b01_in _ | assumption | exact ⟨by omega, by omega⟩) (fun c3 => ?_) (fun c3 => ?_)
      · have c3 := b01_0.mp c3
        refine s_iconst dX8_itself_73 ?_
        have k9 := k g0 g1 (by omega) _ C fc
        unfold zitself at k9
        first
          | (rw [b01_t (by omega)] at k9; exact s_zreturn dX8_itself_74 rfl (by first | exact Or.inl rfl | exact Or.inr rfl) k9)
          | (rw [b01_f (by omega)] at k9; exact s_zreturn dX8_itself_74 rfl (by first | exact Or.inl rfl | exact Or.inr rfl) k9)
      · have c3 := b01_n.mp c3
        refine s_aload_n dX8_itself_59 rfl ?_
        refine s_callV (d' := d - 1) (bc' := 0) (bs' := 0) (as := []) dX8_itself_60 vf_X8_159 (dd_ (by omega) (by decide)) ⟨Nat.zero_le _, Nat.zero_le _⟩ rfl rfl (Nat.le_of_ble_eq_true rfl) kl_6 rfl io_0 ?_
        refine c_X8_reckoning (by omega) C (fun hh hG2 C st fc2 => ?_)
        have fc := fc.tr fc2
        obtain ⟨w, hw, W, hwf, P, CN⟩ := cr_w C
        have RD := cr_rd C st
        have hr := cr_rw C st hw
        have eN := P.1.2.2
        refine s_geti dX8_itself_63 fl_X8_280 kl_4 (by decide) rfl (rk_6_6 io_0) (z := 12) rfl ?_
        try simp (disch := omega) only [hs_same, hs_ne, fl_in, fl_ne, cp_inn, cp_nee]
        have ec := RD.2.2.2.2.2.2.2.2.2.2.2.1
        refine s_if_eq (tgt := 73) dX8_itself_66 (by decide) (by first | exact hG2.2 _ _ | exact hG.2 _ _ | exact b01_in _ | assumption | exact ⟨by omega, by omega⟩) (fun c4 => ?_) (fun c4 => ?_)
        · refine s_iconst dX8_itself_73 ?_
          have k9 := k g0 g1 (by omega) _ C fc
          unfold zitself at k9
          first
            | (rw [b01_t (by omega)] at k9; exact s_zreturn dX8_itself_74 rfl (by first | exact Or.inl rfl | exact Or.inr rfl) k9)
            | (rw [b01_f (by omega)] at k9; exact s_zreturn dX8_itself_74 rfl (by first | exact Or.inl rfl | exact Or.inr rfl) k9)
        · refine s_iconst dX8_itself_69 ?_
          refine s_goto (tgt := 74) dX8_itself_70 (by decide) ?_
          have k9 := k g0 g1 (by omega) _ C fc
          unfold zitself at k9
          first
            | (rw [b01_t (by omega)] at k9; exact s_zreturn dX8_itself_74 rfl (by first | exact Or.inl rfl | exact Or.inr rfl) k9)
            | (rw [b01_f (by omega)] at k9; exact s_zreturn dX8_itself_74 rfl (by first | exact Or.inl rfl | exact Or.inr rfl) k9)
  · refine s_throwW nh_0 dX8_itself_17 dX8_itself_20 dX8_itself_21 dX8_itself_24 dX8_itself_27 ts_X8_207_310_211 bf_IAE (by omega) (by omega) (by omega) (Nat.le_of_ble_eq_true rfl) ?_
    exact k2 g0 g1 (by omega) h C (FC.rf h)
set_option maxRecDepth 100000 in
set_option maxHeartbeats 4000000 in
theorem lp_X8_heir  {z h0 : PH} (hd : 10 ≤ d) (hbc : 8 ≤ bc) (hbs : 48 ≤ bs) {v : Int} (hv : inI v) (k : OK_ Q h0 z (zheir z v)) : ∀ (m : Nat) (i n b : Int) (h : PH), (0 ≤ i) → (i + m = z 0 1) → (0 ≤ n ∧ n ≤ i) → (b = v - n) → (zheir z v = kt_ (fun p => ¬ z 3 p = 0 ∧ 0 < zlv z p) m i n v) → (CR_ h z) → (FC h0 h) → S_ MX8_heir d bc bs Q 4 [(2, 0), (0, v), (0, b), (0, i)] [] nN h := by
  intro m
  induction m with
  | zero =>
    intro i n b h i0 i1 hn hb ek C fc
    have hv1 := hv.1
    have hv2 := hv.2
    have hG := cr_g C
    have I := cr_i C
    obtain ⟨w, hw, W, hwf, P, CN⟩ := cr_w C
    have hT := I.2.1
    have hP := I.2.2.1
    have hN := I.2.2.2.1
    have eP := P.1.2.1
    have eT := P.1.1
    have eN := P.1.2.2
    refine s_iload_n dX8_heir_4 rfl ?_
    refine s_aload_n dX8_heir_5 rfl ?_
    refine s_getr dX8_heir_6 fl_X8_25 kl_6 (by decide) rfl io_0 (z := 3) rfl (by first | exact hw | (simp (disch := omega) only [hs_same, hs_ne, fl_in, fl_ne, cp_inn, cp_nee]; exact hw)) (W).1 ?_
    refine s_getr dX8_heir_9 fl_X8_105 kl_5 (by decide) rfl W (z := 3) rfl (rf_5_3 hG.1 W) (rk_5_3 W).1 ?_
    refine s_geti dX8_heir_12 fl_X8_339 kl_2 (by decide) rfl (rk_5_3 W) (z := 1) rfl ?_
    refine s_icmp_ge (tgt := 44) dX8_heir_15 (by decide) (by first | exact hG.2 _ _ | exact b01_in _ | assumption | exact ⟨by omega, by omega⟩) (by first | exact hG.2 _ _ | exact b01_in _ | assumption | exact ⟨by omega, by omega⟩) (fun c1 => ?_) (fun c1 => ?_)
    · refine s_iconst dX8_heir_44 ?_
      have k2 := k _ C fc
      rw [ek] at k2
      exact s_ireturn dX8_heir_45 rfl k2
    · exact absurd c1 (by omega)
  | succ m ih =>
    intro i n b h i0 i1 hn hb ek C fc
    have hv1 := hv.1
    have hv2 := hv.2
    have hG := cr_g C
    have I := cr_i C
    obtain ⟨w, hw, W, hwf, P, CN⟩ := cr_w C
    have hT := I.2.1
    have hP := I.2.2.1
    have hN := I.2.2.2.1
    have eP := P.1.2.1
    have eT := P.1.1
    have eN := P.1.2.2
    refine s_iload_n dX8_heir_4 rfl ?_
    refine s_aload_n dX8_heir_5 rfl ?_
    refine s_getr dX8_heir_6 fl_X8_25 kl_6 (by decide) rfl io_0 (z := 3) rfl (by first | exact hw | (simp (disch := omega) only [hs_same, hs_ne, fl_in, fl_ne, cp_inn, cp_nee]; exact hw)) (W).1 ?_
    refine s_getr dX8_heir_9 fl_X8_105 kl_5 (by decide) rfl W (z := 3) rfl (rf_5_3 hG.1 W) (rk_5_3 W).1 ?_
    refine s_geti dX8_heir_12 fl_X8_339 kl_2 (by decide) rfl (rk_5_3 W) (z := 1) rfl ?_
    refine s_icmp_ge (tgt := 44) dX8_heir_15 (by decide) (by first | exact hG.2 _ _ | exact b01_in _ | assumption | exact ⟨by omega, by omega⟩) (by first | exact hG.2 _ _ | exact b01_in _ | assumption | exact ⟨by omega, by omega⟩) (fun c1 => ?_) (fun c1 => ?_)
    · exact absurd c1 (by omega)
    · refine s_aload_n dX8_heir_18 rfl ?_
      refine s_callV (d' := d - 1) (bc' := 0) (bs' := 0) (as := []) dX8_heir_19 vf_X8_159 (dd_ (by omega) (by decide)) ⟨Nat.zero_le _, Nat.zero_le _⟩ rfl rfl (Nat.le_of_ble_eq_true rfl) kl_6 rfl io_0 ?_
      refine c_X8_reckoning (by omega) C (fun hh hG1 C st fc2 => ?_)
      have fc := fc.tr fc2
      obtain ⟨w, hw, W, hwf, P, CN⟩ := cr_w C
      have RD := cr_rd C st
      have hr := cr_rw C st hw
      have eN := P.1.2.2
      refine s_iload_n dX8_heir_22 rfl ?_
      refine s_callV (d' := d - 1) (bc' := 0) (bs' := 0) (as := [_]) dX8_heir_23 vf_X8_340 (dd_ (by omega) (by decide)) ⟨Nat.zero_le _, Nat.zero_le _⟩ rfl rfl (Nat.le_of_ble_eq_true rfl) kl_4 rfl (rk_6_6 io_0) ?_
      refine c_X5_isHeir (rk_6_6 io_0) hG1 hr W (by omega) (by omega) ?_
      rw [(P.2.2.1 i i0 (by omega)).2.1, RD.1 i i0 (by omega)]
      refine s_if_eq (tgt := 38) dX8_heir_26 (by decide) (by first | exact hG1.2 _ _ | exact hG.2 _ _ | exact b01_in _ | assumption | exact ⟨by omega, by omega⟩) (fun c2 => ?_) (fun c2 => ?_)
      · have c2 := b01_0.mp c2
        refine s_iinc dX8_heir_38 rfl (by decide) rfl (L' := [_, _, _, _]) rfl ?_
        refine s_goto (tgt := 4) dX8_heir_41 (by decide) ?_
        exact ih (i + 1) n _ _ (by omega) (by omega) (by omega) hb (by rw [ek]; exact kt_f c2) C fc
      · have c2 := b01_n.mp c2
        refine s_iload_n dX8_heir_29 rfl ?_
        refine s_if_neW (tgt := 35) dX8_heir_30 (by decide) (fun c3 => ?_) (fun c3 => ?_)
        · refine s_iinc dX8_heir_35 rfl (by decide) rfl (L' := [_, _, _, _]) rfl ?_
          refine s_iinc dX8_heir_38 rfl (by decide) rfl (L' := [_, _, _, _]) rfl ?_
          refine s_goto (tgt := 4) dX8_heir_41 (by decide) ?_
          exact ih (i + 1) (n + 1) _ _ (by omega) (by omega) (by omega) (by omega) (by rw [ek]; exact kt_s c2 (by omega)) C fc
        · refine s_iload_n dX8_heir_33 rfl ?_
          have k2 := k _ C fc
          rw [ek, kt_t c2 (by omega)] at k2
          exact s_ireturn dX8_heir_34 rfl k2
set_option maxRecDepth 100000 in
set_option maxHeartbeats 4000000 in
theorem c_X8_heir {v : Int} (hd : 10 ≤ d) (hbc : 8 ≤ bc) (hbs : 48 ≤ bs) (C : CR_ h z) (hv : inI v) (k : OK_ Q h z (zheir z v)) : Cl_ yX8_heir MX8_heir d bc bs [(2, 0), (0, v)] nN h Q := by
  refine s_enter pn_X8 rfl (Nat.le_of_ble_eq_true rfl) (L := [(2, _), (0, _), (9, 0), (9, 0)]) rfl ?_
  have hG := cr_g C
  have I := cr_i C
  obtain ⟨w, hw, W, hwf, P, CN⟩ := cr_w C
  have fc := FC.rf h
  have hT := I.2.1
  have hP := I.2.2.1
  have hN := I.2.2.2.1
  refine s_iload_n dX8_heir_0 rfl ?_
  refine s_istore_n dX8_heir_1 (by decide) rfl (L' := [_, _, _, _]) rfl ?_
  refine s_iconst dX8_heir_2 ?_
  refine s_istore_n dX8_heir_3 (by decide) rfl (L' := [_, _, _, _]) rfl ?_
  exact lp_X8_heir hd hbc hbs hv k (z 0 1).toNat 0 0 _ h (Int.le_refl _) (by omega) (by omega) (by omega) rfl C fc
set_option maxRecDepth 100000 in
set_option maxHeartbeats 4000000 in
theorem lp_X8_ranked  {z h0 : PH} (hd : 10 ≤ d) (hbc : 8 ≤ bc) (hbs : 48 ≤ bs) {v : Int} (hv : inI v) (k : OK_ Q h0 z (zranked z v)) : ∀ (m : Nat) (i : Int) (h : PH), (0 ≤ i) → (i + m = z 0 1) → (zranked z v = fs_ (zah z) v m i) → (CR_ h z) → (FC h0 h) → S_ MX8_ranked d bc bs Q 2 [(2, 0), (0, v), (0, i)] [] nN h := by
  intro m
  induction m with
  | zero =>
    intro i h i0 i1 ek C fc
    have hG := cr_g C
    have I := cr_i C
    obtain ⟨w, hw, W, hwf, P, CN⟩ := cr_w C
    have hT := I.2.1
    have hP := I.2.2.1
    have hN := I.2.2.2.1
    have eP := P.1.2.1
    have eT := P.1.1
    have eN := P.1.2.2
    have ba := zah_bd I i
    refine s_iload_n dX8_ranked_2 rfl ?_
    refine s_aload_n dX8_ranked_3 rfl ?_
    refine s_getr dX8_ranked_4 fl_X8_25 kl_6 (by decide) rfl io_0 (z := 3) rfl (by first | exact hw | (simp (disch := omega) only [hs_same, hs_ne, fl_in, fl_ne, cp_inn, cp_nee]; exact hw)) (W).1 ?_
    refine s_getr dX8_ranked_7 fl_X8_105 kl_5 (by decide) rfl W (z := 3) rfl (rf_5_3 hG.1 W) (rk_5_3 W).1 ?_
    refine s_geti dX8_ranked_10 fl_X8_339 kl_2 (by decide) rfl (rk_5_3 W) (z := 1) rfl ?_
    refine s_icmp_ge (tgt := 36) dX8_ranked_13 (by decide) (by first | exact hG.2 _ _ | exact b01_in _ | assumption | exact ⟨by omega, by omega⟩) (by first | exact hG.2 _ _ | exact b01_in _ | assumption | exact ⟨by omega, by omega⟩) (fun c1 => ?_) (fun c1 => ?_)
    · refine s_iconst dX8_ranked_36 ?_
      have k2 := k _ C fc
      rw [ek] at k2
      exact s_ireturn dX8_ranked_37 rfl k2
    · exact absurd c1 (by omega)
  | succ m ih =>
    intro i h i0 i1 ek C fc
    have hG := cr_g C
    have I := cr_i C
    obtain ⟨w, hw, W, hwf, P, CN⟩ := cr_w C
    have hT := I.2.1
    have hP := I.2.2.1
    have hN := I.2.2.2.1
    have eP := P.1.2.1
    have eT := P.1.1
    have eN := P.1.2.2
    have ba := zah_bd I i
    refine s_iload_n dX8_ranked_2 rfl ?_
    refine s_aload_n dX8_ranked_3 rfl ?_
    refine s_getr dX8_ranked_4 fl_X8_25 kl_6 (by decide) rfl io_0 (z := 3) rfl (by first | exact hw | (simp (disch := omega) only [hs_same, hs_ne, fl_in, fl_ne, cp_inn, cp_nee]; exact hw)) (W).1 ?_
    refine s_getr dX8_ranked_7 fl_X8_105 kl_5 (by decide) rfl W (z := 3) rfl (rf_5_3 hG.1 W) (rk_5_3 W).1 ?_
    refine s_geti dX8_ranked_10 fl_X8_339 kl_2 (by decide) rfl (rk_5_3 W) (z := 1) rfl ?_
    refine s_icmp_ge (tgt := 36) dX8_ranked_13 (by decide) (by first | exact hG.2 _ _ | exact b01_in _ | assumption | exact ⟨by omega, by omega⟩) (by first | exact hG.2 _ _ | exact b01_in _ | assumption | exact ⟨by omega, by omega⟩) (fun c1 => ?_) (fun c1 => ?_)
    · exact absurd c1 (by omega)
    · refine s_aload_n dX8_ranked_16 rfl ?_
      refine s_callV (d' := d - 1) (bc' := 0) (bs' := 0) (as := []) dX8_ranked_17 vf_X8_159 (dd_ (by omega) (by decide)) ⟨Nat.zero_le _, Nat.zero_le _⟩ rfl rfl (Nat.le_of_ble_eq_true rfl) kl_6 rfl io_0 ?_
      refine c_X8_reckoning (by omega) C (fun hh hG1 C st fc2 => ?_)
      have fc := fc.tr fc2
      obtain ⟨w, hw, W, hwf, P, CN⟩ := cr_w C
      have RD := cr_rd C st
      have hr := cr_rw C st hw
      have eN := P.1.2.2
      have eP2 := P.1.2.1
      refine s_iload_n dX8_ranked_20 rfl ?_
      refine s_callV (d' := d - 1) (bc' := 0) (bs' := 0) (as := [_]) dX8_ranked_21 vf_X8_343 (dd_ (by omega) (by decide)) ⟨Nat.zero_le _, Nat.zero_le _⟩ rfl rfl (Nat.le_of_ble_eq_true rfl) kl_4 rfl (rk_6_6 io_0) ?_
      refine c_X5_countAhead (by omega) (rk_6_6 io_0) hG1 hr W (by omega) (by omega) (by omega) (by omega) (by omega) (by omega) (fun q a b => ?_) ?_
      · rw [tk_of RD eN a (by omega)]
        have := zta_bd I a (by omega)
        exact ⟨by omega, by omega⟩
      rw [eP2, sumI_congr (g := fun q => if zta z i < zta z q ∨ (zta z q = zta z i ∧ q < i) then 1 else 0) _ _ (fun q a b => by rw [tk_of RD eN a (by omega), tk_of RD eN i0 (by omega)])]
      rw [show sumI (fun q => if zta z i < zta z q ∨ (zta z q = zta z i ∧ q < i) then 1 else 0) 0 (z 0 1).toNat = zah z i from rfl]
      refine s_iload_n dX8_ranked_24 rfl ?_
      refine s_icmp_ne (tgt := 30) dX8_ranked_25 (by decide) (by first | exact hG1.2 _ _ | exact hG.2 _ _ | exact b01_in _ | assumption | exact ⟨by omega, by omega⟩) (by first | exact hG1.2 _ _ | exact hG.2 _ _ | exact b01_in _ | assumption | exact ⟨by omega, by omega⟩) (fun c2 => ?_) (fun c2 => ?_)
      · refine s_iinc dX8_ranked_30 rfl (by decide) rfl (L' := [_, _, _]) rfl ?_
        refine s_goto (tgt := 2) dX8_ranked_33 (by decide) ?_
        exact ih (i + 1) _ (by omega) (by omega) (by rw [ek]; exact fs_f c2) C fc
      · refine s_iload_n dX8_ranked_28 rfl ?_
        have k2 := k _ C fc
        rw [ek, fs_t (by omega)] at k2
        exact s_ireturn dX8_ranked_29 rfl k2
set_option maxRecDepth 100000 in
set_option maxHeartbeats 4000000 in
theorem c_X8_ranked {v : Int} (hd : 10 ≤ d) (hbc : 8 ≤ bc) (hbs : 48 ≤ bs) (C : CR_ h z) (hv : inI v) (k : OK_ Q h z (zranked z v)) : Cl_ yX8_ranked MX8_ranked d bc bs [(2, 0), (0, v)] nN h Q := by
  refine s_enter pn_X8 rfl (Nat.le_of_ble_eq_true rfl) (L := [(2, _), (0, _), (9, 0)]) rfl ?_
  have hG := cr_g C
  have I := cr_i C
  obtain ⟨w, hw, W, hwf, P, CN⟩ := cr_w C
  have fc := FC.rf h
  have hT := I.2.1
  have hP := I.2.2.1
  have hN := I.2.2.2.1
  refine s_iconst dX8_ranked_0 ?_
  refine s_istore_n dX8_ranked_1 (by decide) rfl (L' := [_, _, _]) rfl ?_
  exact lp_X8_ranked hd hbc hbs hv k (z 0 1).toNat 0 h (Int.le_refl _) (by omega) rfl C fc
set_option maxRecDepth 100000 in
set_option maxHeartbeats 4000000 in
theorem lp_X8_countLiving   {z : PH} (hd : 2 ≤ d) (C : CR_ h z) : ∀ (m : Nat) (i a : Int), (0 ≤ i) → (i + m = z 0 1) → (∀ y, y = a + sumI (fun x => if z 1 (32 + x) = 0 then 1 else 0) i m → Q.1 (some (0, y)) nN h) → S_ MX8_countLiving d bc bs Q 4 [(2, 0), (0, a), (0, i)] [] nN h := by
  intro m
  induction m with
  | zero =>
    intro i a i0 i1 k
    have hG := cr_g C
    have I := cr_i C
    obtain ⟨w, hw, W, hwf, P, CN⟩ := cr_w C
    have hT := I.2.1
    have hP := I.2.2.1
    have hN := I.2.2.2.1
    have eP := P.1.2.1
    have eT := P.1.1
    have eN := P.1.2.2
    refine s_iload_n dX8_countLiving_4 rfl ?_
    refine s_aload_n dX8_countLiving_5 rfl ?_
    refine s_getr dX8_countLiving_6 fl_X8_25 kl_6 (by decide) rfl io_0 (z := 3) rfl (by first | exact hw | (simp (disch := omega) only [hs_same, hs_ne, fl_in, fl_ne, cp_inn, cp_nee]; exact hw)) (W).1 ?_
    refine s_getr dX8_countLiving_9 fl_X8_105 kl_5 (by decide) rfl W (z := 3) rfl (rf_5_3 hG.1 W) (rk_5_3 W).1 ?_
    refine s_geti dX8_countLiving_12 fl_X8_339 kl_2 (by decide) rfl (rk_5_3 W) (z := 1) rfl ?_
    refine s_icmp_ge (tgt := 43) dX8_countLiving_15 (by decide) (by first | exact hG.2 _ _ | exact b01_in _ | assumption | exact ⟨by omega, by omega⟩) (by first | exact hG.2 _ _ | exact b01_in _ | assumption | exact ⟨by omega, by omega⟩) (fun c1 => ?_) (fun c1 => ?_)
    · refine s_iload_n dX8_countLiving_43 rfl ?_
      exact s_ireturn dX8_countLiving_44 rfl (k _ (by simp only [sumI]; omega))
    · exact absurd c1 (by omega)
  | succ m ih =>
    intro i a i0 i1 k
    have hG := cr_g C
    have I := cr_i C
    obtain ⟨w, hw, W, hwf, P, CN⟩ := cr_w C
    have hT := I.2.1
    have hP := I.2.2.1
    have hN := I.2.2.2.1
    have eP := P.1.2.1
    have eT := P.1.1
    have eN := P.1.2.2
    refine s_iload_n dX8_countLiving_4 rfl ?_
    refine s_aload_n dX8_countLiving_5 rfl ?_
    refine s_getr dX8_countLiving_6 fl_X8_25 kl_6 (by decide) rfl io_0 (z := 3) rfl (by first | exact hw | (simp (disch := omega) only [hs_same, hs_ne, fl_in, fl_ne, cp_inn, cp_nee]; exact hw)) (W).1 ?_
    refine s_getr dX8_countLiving_9 fl_X8_105 kl_5 (by decide) rfl W (z := 3) rfl (rf_5_3 hG.1 W) (rk_5_3 W).1 ?_
    refine s_geti dX8_countLiving_12 fl_X8_339 kl_2 (by decide) rfl (rk_5_3 W) (z := 1) rfl ?_
    refine s_icmp_ge (tgt := 43) dX8_countLiving_15 (by decide) (by first | exact hG.2 _ _ | exact b01_in _ | assumption | exact ⟨by omega, by omega⟩) (by first | exact hG.2 _ _ | exact b01_in _ | assumption | exact ⟨by omega, by omega⟩) (fun c1 => ?_) (fun c1 => ?_)
    · exact absurd c1 (by omega)
    · refine s_iload_n dX8_countLiving_18 rfl ?_
      refine s_aload_n dX8_countLiving_19 rfl ?_
      refine s_getr dX8_countLiving_20 fl_X8_32 kl_6 (by decide) rfl io_0 (z := 4) rfl (rf_6_4 hG.1 io_0) (rk_6_4 io_0).1 ?_
      refine s_iload_n dX8_countLiving_23 rfl ?_
      refine s_callV (d' := d - 1) (bc' := 0) (bs' := 0) (as := [_]) dX8_countLiving_24 vf_X8_156 (dd_ (by omega) (by decide)) ⟨Nat.zero_le _, Nat.zero_le _⟩ rfl rfl (Nat.le_of_ble_eq_true rfl) kl_1 rfl (rk_6_4 io_0) ?_
      refine c_X2_isDead (rk_6_4 io_0) hG (by omega) (by omega) ?_
      rw [P.2.1 _ (by omega) (by omega)]
      refine s_if_eq (tgt := 34) dX8_countLiving_27 (by decide) (by first | exact hG.2 _ _ | exact b01_in _ | assumption | exact ⟨by omega, by omega⟩) (fun c2 => ?_) (fun c2 => ?_)
      · have c2 := b01_0.mp c2
        refine s_iconst dX8_countLiving_34 ?_
        refine s_iadd dX8_countLiving_35 ?_
        refine s_istore_n dX8_countLiving_36 (by decide) rfl (L' := [_, _, _]) rfl ?_
        refine s_iinc dX8_countLiving_37 rfl (by decide) rfl (L' := [_, _, _]) rfl ?_
        refine s_goto (tgt := 4) dX8_countLiving_40 (by decide) ?_
        exact ih (i + 1) _ (by omega) (by omega) (fun y e => k y (by rw [e]; simp only [sumI]; split <;> omega))
      · have c2 := b01_n.mp c2
        refine s_iconst dX8_countLiving_30 ?_
        refine s_goto (tgt := 35) dX8_countLiving_31 (by decide) ?_
        refine s_iadd dX8_countLiving_35 ?_
        refine s_istore_n dX8_countLiving_36 (by decide) rfl (L' := [_, _, _]) rfl ?_
        refine s_iinc dX8_countLiving_37 rfl (by decide) rfl (L' := [_, _, _]) rfl ?_
        refine s_goto (tgt := 4) dX8_countLiving_40 (by decide) ?_
        exact ih (i + 1) _ (by omega) (by omega) (fun y e => k y (by rw [e]; simp only [sumI]; split <;> omega))
set_option maxRecDepth 100000 in
set_option maxHeartbeats 4000000 in
theorem c_X8_countLiving {z : PH} (hd : 3 ≤ d) (C : CR_ h z) (k : Q.1 (some (0, zliving z)) nN h)  : Cl_ yX8_countLiving MX8_countLiving d bc bs [(2, 0)] nN h Q := by
  refine s_enter pn_X8 rfl (Nat.le_of_ble_eq_true rfl) (L := [(2, _), (9, 0), (9, 0)]) rfl ?_
  have hG := cr_g C
  have I := cr_i C
  obtain ⟨w, hw, W, hwf, P, CN⟩ := cr_w C
  have hT := I.2.1
  have hP := I.2.2.1
  have hN := I.2.2.2.1
  have eP := P.1.2.1
  have eT := P.1.1
  have eN := P.1.2.2
  refine s_iconst dX8_countLiving_0 ?_
  refine s_istore_n dX8_countLiving_1 (by decide) rfl (L' := [_, _, _]) rfl ?_
  refine s_iconst dX8_countLiving_2 ?_
  refine s_istore_n dX8_countLiving_3 (by decide) rfl (L' := [_, _, _]) rfl ?_
  exact lp_X8_countLiving (by omega) C (z 0 1).toNat 0 0 (by omega) (by omega) (fun y e => by rw [e, Int.zero_add]; exact k)
set_option maxRecDepth 100000 in
set_option maxHeartbeats 4000000 in
theorem lp_X8_countHeld   {z : PH} (hd : 2 ≤ d) (C : CR_ h z) : ∀ (m : Nat) (i a : Int), (0 ≤ i) → (i + m = z 0 0) → (∀ y, y = a + sumI (fun x => if z 1 (8 + x) = 0 then 1 else 0) i m → Q.1 (some (0, y)) nN h) → S_ MX8_countHeld d bc bs Q 4 [(2, 0), (0, a), (0, i)] [] nN h := by
  intro m
  induction m with
  | zero =>
    intro i a i0 i1 k
    have hG := cr_g C
    have I := cr_i C
    obtain ⟨w, hw, W, hwf, P, CN⟩ := cr_w C
    have hT := I.2.1
    have hP := I.2.2.1
    have hN := I.2.2.2.1
    have eP := P.1.2.1
    have eT := P.1.1
    have eN := P.1.2.2
    refine s_iload_n dX8_countHeld_4 rfl ?_
    refine s_aload_n dX8_countHeld_5 rfl ?_
    refine s_getr dX8_countHeld_6 fl_X8_25 kl_6 (by decide) rfl io_0 (z := 3) rfl (by first | exact hw | (simp (disch := omega) only [hs_same, hs_ne, fl_in, fl_ne, cp_inn, cp_nee]; exact hw)) (W).1 ?_
    refine s_getr dX8_countHeld_9 fl_X8_118 kl_5 (by decide) rfl W (z := 0) rfl (rf_5_0 hG.1 W) (rk_5_0 W).1 ?_
    refine s_geti dX8_countHeld_12 fl_X8_339 kl_2 (by decide) rfl (rk_5_0 W) (z := 1) rfl ?_
    refine s_icmp_ge (tgt := 43) dX8_countHeld_15 (by decide) (by first | exact hG.2 _ _ | exact b01_in _ | assumption | exact ⟨by omega, by omega⟩) (by first | exact hG.2 _ _ | exact b01_in _ | assumption | exact ⟨by omega, by omega⟩) (fun c1 => ?_) (fun c1 => ?_)
    · refine s_iload_n dX8_countHeld_43 rfl ?_
      exact s_ireturn dX8_countHeld_44 rfl (k _ (by simp only [sumI]; omega))
    · exact absurd c1 (by omega)
  | succ m ih =>
    intro i a i0 i1 k
    have hG := cr_g C
    have I := cr_i C
    obtain ⟨w, hw, W, hwf, P, CN⟩ := cr_w C
    have hT := I.2.1
    have hP := I.2.2.1
    have hN := I.2.2.2.1
    have eP := P.1.2.1
    have eT := P.1.1
    have eN := P.1.2.2
    refine s_iload_n dX8_countHeld_4 rfl ?_
    refine s_aload_n dX8_countHeld_5 rfl ?_
    refine s_getr dX8_countHeld_6 fl_X8_25 kl_6 (by decide) rfl io_0 (z := 3) rfl (by first | exact hw | (simp (disch := omega) only [hs_same, hs_ne, fl_in, fl_ne, cp_inn, cp_nee]; exact hw)) (W).1 ?_
    refine s_getr dX8_countHeld_9 fl_X8_118 kl_5 (by decide) rfl W (z := 0) rfl (rf_5_0 hG.1 W) (rk_5_0 W).1 ?_
    refine s_geti dX8_countHeld_12 fl_X8_339 kl_2 (by decide) rfl (rk_5_0 W) (z := 1) rfl ?_
    refine s_icmp_ge (tgt := 43) dX8_countHeld_15 (by decide) (by first | exact hG.2 _ _ | exact b01_in _ | assumption | exact ⟨by omega, by omega⟩) (by first | exact hG.2 _ _ | exact b01_in _ | assumption | exact ⟨by omega, by omega⟩) (fun c1 => ?_) (fun c1 => ?_)
    · exact absurd c1 (by omega)
    · refine s_iload_n dX8_countHeld_18 rfl ?_
      refine s_aload_n dX8_countHeld_19 rfl ?_
      refine s_getr dX8_countHeld_20 fl_X8_32 kl_6 (by decide) rfl io_0 (z := 4) rfl (rf_6_4 hG.1 io_0) (rk_6_4 io_0).1 ?_
      refine s_iload_n dX8_countHeld_23 rfl ?_
      refine s_callV (d' := d - 1) (bc' := 0) (bs' := 0) (as := [_]) dX8_countHeld_24 vf_X8_131 (dd_ (by omega) (by decide)) ⟨Nat.zero_le _, Nat.zero_le _⟩ rfl rfl (Nat.le_of_ble_eq_true rfl) kl_1 rfl (rk_6_4 io_0) ?_
      refine c_X2_isHeld (rk_6_4 io_0) hG (by omega) (by omega) ?_
      rw [P.2.1 _ (by omega) (by omega)]
      refine s_if_eq (tgt := 34) dX8_countHeld_27 (by decide) (by first | exact hG.2 _ _ | exact b01_in _ | assumption | exact ⟨by omega, by omega⟩) (fun c2 => ?_) (fun c2 => ?_)
      · have c2 := b01_0.mp c2
        refine s_iconst dX8_countHeld_34 ?_
        refine s_iadd dX8_countHeld_35 ?_
        refine s_istore_n dX8_countHeld_36 (by decide) rfl (L' := [_, _, _]) rfl ?_
        refine s_iinc dX8_countHeld_37 rfl (by decide) rfl (L' := [_, _, _]) rfl ?_
        refine s_goto (tgt := 4) dX8_countHeld_40 (by decide) ?_
        exact ih (i + 1) _ (by omega) (by omega) (fun y e => k y (by rw [e]; simp only [sumI]; split <;> omega))
      · have c2 := b01_n.mp c2
        refine s_iconst dX8_countHeld_30 ?_
        refine s_goto (tgt := 35) dX8_countHeld_31 (by decide) ?_
        refine s_iadd dX8_countHeld_35 ?_
        refine s_istore_n dX8_countHeld_36 (by decide) rfl (L' := [_, _, _]) rfl ?_
        refine s_iinc dX8_countHeld_37 rfl (by decide) rfl (L' := [_, _, _]) rfl ?_
        refine s_goto (tgt := 4) dX8_countHeld_40 (by decide) ?_
        exact ih (i + 1) _ (by omega) (by omega) (fun y e => k y (by rw [e]; simp only [sumI]; split <;> omega))
set_option maxRecDepth 100000 in
set_option maxHeartbeats 4000000 in
theorem c_X8_countHeld {z : PH} (hd : 3 ≤ d) (C : CR_ h z) (k : Q.1 (some (0, zheld z)) nN h)  : Cl_ yX8_countHeld MX8_countHeld d bc bs [(2, 0)] nN h Q := by
  refine s_enter pn_X8 rfl (Nat.le_of_ble_eq_true rfl) (L := [(2, _), (9, 0), (9, 0)]) rfl ?_
  have hG := cr_g C
  have I := cr_i C
  obtain ⟨w, hw, W, hwf, P, CN⟩ := cr_w C
  have hT := I.2.1
  have hP := I.2.2.1
  have hN := I.2.2.2.1
  have eP := P.1.2.1
  have eT := P.1.1
  have eN := P.1.2.2
  refine s_iconst dX8_countHeld_0 ?_
  refine s_istore_n dX8_countHeld_1 (by decide) rfl (L' := [_, _, _]) rfl ?_
  refine s_iconst dX8_countHeld_2 ?_
  refine s_istore_n dX8_countHeld_3 (by decide) rfl (L' := [_, _, _]) rfl ?_
  exact lp_X8_countHeld (by omega) C (z 0 0).toNat 0 0 (by omega) (by omega) (fun y e => by rw [e, Int.zero_add]; exact k)
set_option maxRecDepth 100000 in
set_option maxHeartbeats 4000000 in
theorem lp_X8_countRenounced   {z : PH} (hd : 2 ≤ d) (C : CR_ h z) : ∀ (m : Nat) (i a : Int), (0 ≤ i) → (i + m = z 0 2) → (∀ y, y = a + sumI (fun x => if z 1 (44 + x) = 0 then 0 else 1) i m → Q.1 (some (0, y)) nN h) → S_ MX8_countRenounced d bc bs Q 4 [(2, 0), (0, a), (0, i)] [] nN h := by
  intro m
  induction m with
  | zero =>
    intro i a i0 i1 k
    have hG := cr_g C
    have I := cr_i C
    obtain ⟨w, hw, W, hwf, P, CN⟩ := cr_w C
    have hT := I.2.1
    have hP := I.2.2.1
    have hN := I.2.2.2.1
    have eP := P.1.2.1
    have eT := P.1.1
    have eN := P.1.2.2
    refine s_iload_n dX8_countRenounced_4 rfl ?_
    refine s_aload_n dX8_countRenounced_5 rfl ?_
    refine s_getr dX8_countRenounced_6 fl_X8_25 kl_6 (by decide) rfl io_0 (z := 3) rfl (by first | exact hw | (simp (disch := omega) only [hs_same, hs_ne, fl_in, fl_ne, cp_inn, cp_nee]; exact hw)) (W).1 ?_
    refine s_geti dX8_countRenounced_9 fl_X8_96 kl_5 (by decide) rfl W (z := 7) rfl ?_
    refine s_icmp_ge (tgt := 40) dX8_countRenounced_12 (by decide) (by first | exact hG.2 _ _ | exact b01_in _ | assumption | exact ⟨by omega, by omega⟩) (by first | exact hG.2 _ _ | exact b01_in _ | assumption | exact ⟨by omega, by omega⟩) (fun c1 => ?_) (fun c1 => ?_)
    · refine s_iload_n dX8_countRenounced_40 rfl ?_
      exact s_ireturn dX8_countRenounced_41 rfl (k _ (by simp only [sumI]; omega))
    · exact absurd c1 (by omega)
  | succ m ih =>
    intro i a i0 i1 k
    have hG := cr_g C
    have I := cr_i C
    obtain ⟨w, hw, W, hwf, P, CN⟩ := cr_w C
    have hT := I.2.1
    have hP := I.2.2.1
    have hN := I.2.2.2.1
    have eP := P.1.2.1
    have eT := P.1.1
    have eN := P.1.2.2
    refine s_iload_n dX8_countRenounced_4 rfl ?_
    refine s_aload_n dX8_countRenounced_5 rfl ?_
    refine s_getr dX8_countRenounced_6 fl_X8_25 kl_6 (by decide) rfl io_0 (z := 3) rfl (by first | exact hw | (simp (disch := omega) only [hs_same, hs_ne, fl_in, fl_ne, cp_inn, cp_nee]; exact hw)) (W).1 ?_
    refine s_geti dX8_countRenounced_9 fl_X8_96 kl_5 (by decide) rfl W (z := 7) rfl ?_
    refine s_icmp_ge (tgt := 40) dX8_countRenounced_12 (by decide) (by first | exact hG.2 _ _ | exact b01_in _ | assumption | exact ⟨by omega, by omega⟩) (by first | exact hG.2 _ _ | exact b01_in _ | assumption | exact ⟨by omega, by omega⟩) (fun c1 => ?_) (fun c1 => ?_)
    · exact absurd c1 (by omega)
    · refine s_iload_n dX8_countRenounced_15 rfl ?_
      refine s_aload_n dX8_countRenounced_16 rfl ?_
      refine s_getr dX8_countRenounced_17 fl_X8_32 kl_6 (by decide) rfl io_0 (z := 4) rfl (rf_6_4 hG.1 io_0) (rk_6_4 io_0).1 ?_
      refine s_iload_n dX8_countRenounced_20 rfl ?_
      refine s_callV (d' := d - 1) (bc' := 0) (bs' := 0) (as := [_]) dX8_countRenounced_21 vf_X8_234 (dd_ (by omega) (by decide)) ⟨Nat.zero_le _, Nat.zero_le _⟩ rfl rfl (Nat.le_of_ble_eq_true rfl) kl_1 rfl (rk_6_4 io_0) ?_
      refine c_X2_isRenounced (rk_6_4 io_0) hG (by omega) (by omega) ?_
      rw [P.2.1 _ (by omega) (by omega)]
      refine s_if_eq (tgt := 31) dX8_countRenounced_24 (by decide) (by first | exact hG.2 _ _ | exact b01_in _ | assumption | exact ⟨by omega, by omega⟩) (fun c2 => ?_) (fun c2 => ?_)
      · have c2 := b01_0.mp c2
        refine s_iconst dX8_countRenounced_31 ?_
        refine s_iadd dX8_countRenounced_32 ?_
        refine s_istore_n dX8_countRenounced_33 (by decide) rfl (L' := [_, _, _]) rfl ?_
        refine s_iinc dX8_countRenounced_34 rfl (by decide) rfl (L' := [_, _, _]) rfl ?_
        refine s_goto (tgt := 4) dX8_countRenounced_37 (by decide) ?_
        exact ih (i + 1) _ (by omega) (by omega) (fun y e => k y (by rw [e]; simp only [sumI]; split <;> omega))
      · have c2 := b01_n.mp c2
        refine s_iconst dX8_countRenounced_27 ?_
        refine s_goto (tgt := 32) dX8_countRenounced_28 (by decide) ?_
        refine s_iadd dX8_countRenounced_32 ?_
        refine s_istore_n dX8_countRenounced_33 (by decide) rfl (L' := [_, _, _]) rfl ?_
        refine s_iinc dX8_countRenounced_34 rfl (by decide) rfl (L' := [_, _, _]) rfl ?_
        refine s_goto (tgt := 4) dX8_countRenounced_37 (by decide) ?_
        exact ih (i + 1) _ (by omega) (by omega) (fun y e => k y (by rw [e]; simp only [sumI]; split <;> omega))
set_option maxRecDepth 100000 in
set_option maxHeartbeats 4000000 in
theorem c_X8_countRenounced {z : PH} (hd : 3 ≤ d) (C : CR_ h z) (k : Q.1 (some (0, zren z)) nN h)  : Cl_ yX8_countRenounced MX8_countRenounced d bc bs [(2, 0)] nN h Q := by
  refine s_enter pn_X8 rfl (Nat.le_of_ble_eq_true rfl) (L := [(2, _), (9, 0), (9, 0)]) rfl ?_
  have hG := cr_g C
  have I := cr_i C
  obtain ⟨w, hw, W, hwf, P, CN⟩ := cr_w C
  have hT := I.2.1
  have hP := I.2.2.1
  have hN := I.2.2.2.1
  have eP := P.1.2.1
  have eT := P.1.1
  have eN := P.1.2.2
  refine s_iconst dX8_countRenounced_0 ?_
  refine s_istore_n dX8_countRenounced_1 (by decide) rfl (L' := [_, _, _]) rfl ?_
  refine s_iconst dX8_countRenounced_2 ?_
  refine s_istore_n dX8_countRenounced_3 (by decide) rfl (L' := [_, _, _]) rfl ?_
  exact lp_X8_countRenounced (by omega) C (z 0 2).toNat 0 0 (by omega) (by omega) (fun y e => by rw [e, Int.zero_add]; exact k)
end X8D
