/-! WillHouse$Reckoning, what writes: the estate, claims -/
section X5D
variable {d bc bs : Nat} {Q : PQ} {h : PH} {r w f : Int}
set_option maxRecDepth 100000 in
set_option maxHeartbeats 4000000 in
theorem lp_X5_lookAtEstate {h0 : PH} (hd : 3 ≤ d) (A : isO nN r 4) (W : isO nN w 5) (F : isO nN f 1) (hfr : f + 1 < r) (hw0 : h0 r 14 = w) (hf0 : h0 r 15 = f) (t0 : 0 ≤ h0 (w + 1) 1) (t8 : h0 (w + 1) 1 ≤ 8) (k0 : 0 ≤ h0 (f + 1) 56) (k9 : h0 (f + 1) 56 ≤ 99999) (b0 : 0 ≤ h0 (f + 1) 57) (b9 : h0 (f + 1) 57 ≤ 99999) (hbr : ∀ t : Int, 0 ≤ t → t < 8 → 0 ≤ br_ h0 (f + 1) t ∧ br_ h0 (f + 1) t ≤ 9999) (q : ∀ h' : PH, G h' → (∀ x y : Int, ¬ (x = r + 3 ∨ (x = r ∧ (y = 7 ∨ y = 8))) → h' x y = h0 x y) → (∀ t : Int, 0 ≤ t → t < h0 (w + 1) 1 → h' (r + 3) t = br_ h0 (f + 1) t) → h' r 7 = h0 (f + 1) 56 + sumI (fun t => br_ h0 (f + 1) t) 0 (h0 (w + 1) 1).toNat → h' r 8 = max 0 (h' r 7 - h0 (f + 1) 57) → Q.1 none nN h') : ∀ (m : Nat) (i : Int) (h : PH), (G h) → (0 ≤ i) → (i + m = h0 (w + 1) 1) → (∀ x y : Int, ¬ (x = r + 3 ∨ (x = r ∧ (y = 7 ∨ y = 8))) → h x y = h0 x y) → (∀ t : Int, 0 ≤ t → t < i → h (r + 3) t = br_ h0 (f + 1) t) → (h r 7 = h0 (f + 1) 56 + sumI (fun t => br_ h0 (f + 1) t) 0 i.toNat) → (0 ≤ h r 7 ∧ h r 7 ≤ 99999 + 9999 * i) → S_ MX5_lookAtEstate d bc bs Q 14 [(2, r), (0, i)] [] nN h := by
  intro m
  induction m with
  | zero =>
    intro i h hG i0 i1 fr v1 v2 v3
    have hwv := io_of_5 W
    have hrv := io_of_4 A
    have hwr : w + 36 < r := by omega
    clear hwv hrv
    have hw : h r 14 = w := by rw [fr r 14 (by omega)]; exact hw0
    have hf : h r 15 = f := by rw [fr r 15 (by omega)]; exact hf0
    have en := fr (w + 1) 1 (by omega)
    have eb : br_ h (f + 1) i = br_ h0 (f + 1) i := br_congr (fun y => fr (f + 1) y (by omega))
    have ed := fr (f + 1) 57 (by omega)
    refine s_iload_n dX5_lookAtEstate_14 rfl ?_
    refine s_aload_n dX5_lookAtEstate_15 rfl ?_
    refine s_getr dX5_lookAtEstate_16 fl_X5_46 kl_4 (by decide) rfl A (z := 14) rfl (by first | exact hw | (simp (disch := omega) only [hs_same, hs_ne, fl_in, fl_ne, cp_inn, cp_nee]; exact hw)) (W).1 ?_
    refine s_getr dX5_lookAtEstate_19 fl_X5_146 kl_5 (by decide) rfl W (z := 0) rfl (rf_5_0 hG.1 W) (rk_5_0 W).1 ?_
    refine s_geti dX5_lookAtEstate_22 fl_X5_111 kl_2 (by decide) rfl (rk_5_0 W) (z := 1) rfl ?_
    refine s_icmp_ge (tgt := 63) dX5_lookAtEstate_25 (by decide) (by first | exact hG.2 _ _ | exact b01_in _ | assumption | exact ⟨by omega, by omega⟩) (by first | exact hG.2 _ _ | exact b01_in _ | assumption | exact ⟨by omega, by omega⟩) (fun c1 => ?_) (fun c1 => ?_)
    · refine s_aload_n dX5_lookAtEstate_63 rfl ?_
      refine s_iconst dX5_lookAtEstate_64 ?_
      refine s_aload_n dX5_lookAtEstate_65 rfl ?_
      refine s_geti dX5_lookAtEstate_66 fl_X5_143 kl_4 (by decide) rfl A (z := 7) rfl ?_
      refine s_aload_n dX5_lookAtEstate_69 rfl ?_
      refine s_getr dX5_lookAtEstate_70 fl_X5_50 kl_4 (by decide) rfl A (z := 15) rfl (by first | exact hf | (simp (disch := omega) only [hs_same, hs_ne, fl_in, fl_ne, cp_inn, cp_nee]; exact hf)) (F).1 ?_
      refine s_iconst dX5_lookAtEstate_73 ?_
      refine s_callV (d' := d - 1) (bc' := 0) (bs' := 0) (as := [_]) dX5_lookAtEstate_74 vf_X5_139 (dd_ (by omega) (by decide)) ⟨Nat.zero_le _, Nat.zero_le _⟩ rfl rfl (Nat.le_of_ble_eq_true rfl) kl_1 rfl F ?_
      refine c_X2_told F hG (by omega) (by omega) ?_
      try simp only [Int.add_zero]
      rw [show (56 : Int) + 1 = 57 by rfl, ed]
      refine s_isub dX5_lookAtEstate_77 ?_
      refine s_mmax dX5_lookAtEstate_78 jm_X5_152 (by first | exact hG.2 _ _ | exact b01_in _ | assumption | exact ⟨by omega, by omega⟩) (by first | exact hG.2 _ _ | exact b01_in _ | assumption | exact ⟨by omega, by omega⟩) (by omega) (Nat.le_of_ble_eq_true rfl) ?_
      refine s_putiG 8 dX5_lookAtEstate_81 fl_X5_158 kl_4 (by decide) rfl rfl A (z := 8) rfl (by decide +kernel) hG (by first | exact hG.2 _ _ | exact b01_in _ | assumption | exact ⟨by omega, by omega⟩) (fun hG1 => ?_)
      exact s_return dX5_lookAtEstate_84 rfl (q _ hG1 (by
          intro x y hx
          simp (disch := omega) only [hs_same, hs_ne, fl_in, fl_ne, cp_inn, cp_nee]
          exact fr x y hx) (by
          intro t q0 q1
          simp (disch := omega) only [hs_same, hs_ne, fl_in, fl_ne, cp_inn, cp_nee]
          exact v1 t q0 (by omega)) (by
          simp (disch := omega) only [hs_same, hs_ne, fl_in, fl_ne, cp_inn, cp_nee]
          rw [v2, show i = h0 (w + 1) 1 by omega]) (by
          simp (disch := omega) only [hs_same, hs_ne, fl_in, fl_ne, cp_inn, cp_nee]))
    · exact absurd c1 (by omega)
  | succ m ih =>
    intro i h hG i0 i1 fr v1 v2 v3
    have hwv := io_of_5 W
    have hrv := io_of_4 A
    have hwr : w + 36 < r := by omega
    clear hwv hrv
    have hw : h r 14 = w := by rw [fr r 14 (by omega)]; exact hw0
    have hf : h r 15 = f := by rw [fr r 15 (by omega)]; exact hf0
    have en := fr (w + 1) 1 (by omega)
    have eb : br_ h (f + 1) i = br_ h0 (f + 1) i := br_congr (fun y => fr (f + 1) y (by omega))
    have ed := fr (f + 1) 57 (by omega)
    have hbi := hbr i (by omega) (by omega)
    refine s_iload_n dX5_lookAtEstate_14 rfl ?_
    refine s_aload_n dX5_lookAtEstate_15 rfl ?_
    refine s_getr dX5_lookAtEstate_16 fl_X5_46 kl_4 (by decide) rfl A (z := 14) rfl (by first | exact hw | (simp (disch := omega) only [hs_same, hs_ne, fl_in, fl_ne, cp_inn, cp_nee]; exact hw)) (W).1 ?_
    refine s_getr dX5_lookAtEstate_19 fl_X5_146 kl_5 (by decide) rfl W (z := 0) rfl (rf_5_0 hG.1 W) (rk_5_0 W).1 ?_
    refine s_geti dX5_lookAtEstate_22 fl_X5_111 kl_2 (by decide) rfl (rk_5_0 W) (z := 1) rfl ?_
    refine s_icmp_ge (tgt := 63) dX5_lookAtEstate_25 (by decide) (by first | exact hG.2 _ _ | exact b01_in _ | assumption | exact ⟨by omega, by omega⟩) (by first | exact hG.2 _ _ | exact b01_in _ | assumption | exact ⟨by omega, by omega⟩) (fun c1 => ?_) (fun c1 => ?_)
    · exact absurd c1 (by omega)
    · refine s_aload_n dX5_lookAtEstate_28 rfl ?_
      refine s_getr dX5_lookAtEstate_29 fl_X5_19 kl_4 (by decide) rfl A (z := 2) rfl (rf_4_2 hG.1 A) (rk_4_2 A).1 ?_
      refine s_iload_n dX5_lookAtEstate_32 rfl ?_
      refine s_aload_n dX5_lookAtEstate_33 rfl ?_
      refine s_getr dX5_lookAtEstate_34 fl_X5_50 kl_4 (by decide) rfl A (z := 15) rfl (by first | exact hf | (simp (disch := omega) only [hs_same, hs_ne, fl_in, fl_ne, cp_inn, cp_nee]; exact hf)) (F).1 ?_
      refine s_iload_n dX5_lookAtEstate_37 rfl ?_
      refine s_callV (d' := d - 1) (bc' := 0) (bs' := 0) (as := [_]) dX5_lookAtEstate_38 vf_X5_149 (dd_ (by omega) (by decide)) ⟨Nat.zero_le _, Nat.zero_le _⟩ rfl rfl (Nat.le_of_ble_eq_true rfl) kl_1 rfl F ?_
      refine c_X2_brings (by omega) F hG (by omega) (by omega) ?_
      rw [eb]
      refine s_iastoreG dX5_lookAtEstate_41 (rk_4_2 A) (by omega) (by omega) hG (by first | exact hG.2 _ _ | exact b01_in _ | assumption | exact ⟨by omega, by omega⟩) (fun hG1 => ?_)
      refine s_aload_n dX5_lookAtEstate_42 rfl ?_
      refine s_dup dX5_lookAtEstate_43 rfl ?_
      refine s_geti dX5_lookAtEstate_44 fl_X5_143 kl_4 (by decide) rfl A (z := 7) rfl ?_
      try simp (disch := omega) only [hs_same, hs_ne, fl_in, fl_ne, cp_inn, cp_nee]
      refine s_aload_n dX5_lookAtEstate_47 rfl ?_
      refine s_getr dX5_lookAtEstate_48 fl_X5_19 kl_4 (by decide) rfl A (z := 2) rfl (rf_4_2 hG1.1 A) (rk_4_2 A).1 ?_
      refine s_iload_n dX5_lookAtEstate_51 rfl ?_
      refine s_iaload dX5_lookAtEstate_52 (rk_4_2 A) (by omega) (by omega) ?_
      try simp (disch := omega) only [hs_same, hs_ne, fl_in, fl_ne, cp_inn, cp_nee]
      refine s_iadd dX5_lookAtEstate_53 ?_
      refine s_putiG 7 dX5_lookAtEstate_54 fl_X5_143 kl_4 (by decide) rfl rfl A (z := 7) rfl (by decide +kernel) hG1 (by first | exact hG1.2 _ _ | exact hG.2 _ _ | exact b01_in _ | assumption | exact ⟨by omega, by omega⟩) (fun hG2 => ?_)
      refine s_iinc dX5_lookAtEstate_57 rfl (by decide) rfl (L' := [_, _]) rfl ?_
      refine s_goto (tgt := 14) dX5_lookAtEstate_60 (by decide) ?_
      refine ih (i + 1) _ hG2 (by omega) (by omega) ?_ ?_ ?_ ?_
      · intro x y hx
        simp (disch := omega) only [hs_same, hs_ne, fl_in, fl_ne, cp_inn, cp_nee]
        exact fr x y hx
      · intro t q0 q1
        by_cases e : t = i
        · subst e
          simp (disch := omega) only [hs_same, hs_ne, fl_in, fl_ne, cp_inn, cp_nee]
        · simp (disch := omega) only [hs_same, hs_ne, fl_in, fl_ne, cp_inn, cp_nee]
          exact v1 t q0 (by omega)
      · simp (disch := omega) only [hs_same, hs_ne, fl_in, fl_ne, cp_inn, cp_nee]
        rw [sumI_up _ i0, v2]
        omega
      · simp (disch := omega) only [hs_same, hs_ne, fl_in, fl_ne, cp_inn, cp_nee]
        omega
set_option maxRecDepth 100000 in
set_option maxHeartbeats 4000000 in
theorem c_X5_lookAtEstate {h0 : PH} (hd : 3 ≤ d) (A : isO nN r 4) (W : isO nN w 5) (F : isO nN f 1) (hfr : f + 1 < r) (hw0 : h0 r 14 = w) (hf0 : h0 r 15 = f) (t0 : 0 ≤ h0 (w + 1) 1) (t8 : h0 (w + 1) 1 ≤ 8) (k0 : 0 ≤ h0 (f + 1) 56) (k9 : h0 (f + 1) 56 ≤ 99999) (b0 : 0 ≤ h0 (f + 1) 57) (b9 : h0 (f + 1) 57 ≤ 99999) (hbr : ∀ t : Int, 0 ≤ t → t < 8 → 0 ≤ br_ h0 (f + 1) t ∧ br_ h0 (f + 1) t ≤ 9999) (hG : G h0) (q : ∀ h' : PH, G h' → (∀ x y : Int, ¬ (x = r + 3 ∨ (x = r ∧ (y = 7 ∨ y = 8))) → h' x y = h0 x y) → (∀ t : Int, 0 ≤ t → t < h0 (w + 1) 1 → h' (r + 3) t = br_ h0 (f + 1) t) → h' r 7 = h0 (f + 1) 56 + sumI (fun t => br_ h0 (f + 1) t) 0 (h0 (w + 1) 1).toNat → h' r 8 = max 0 (h' r 7 - h0 (f + 1) 57) → Q.1 none nN h') : Cl_ yX5_lookAtEstate MX5_lookAtEstate d bc bs [(2, r)] nN h0 Q := by
  refine s_enter pn_X5 rfl (Nat.le_of_ble_eq_true rfl) (L := [(2, _), (9, 0)]) rfl ?_
  refine s_aload_n dX5_lookAtEstate_0 rfl ?_
  refine s_aload_n dX5_lookAtEstate_1 rfl ?_
  refine s_getr dX5_lookAtEstate_2 fl_X5_50 kl_4 (by decide) rfl A (z := 15) rfl hf0 (F).1 ?_
  refine s_iconst dX5_lookAtEstate_5 ?_
  refine s_callV (d' := d - 1) (bc' := 0) (bs' := 0) (as := [_]) dX5_lookAtEstate_6 vf_X5_139 (dd_ (by omega) (by decide)) ⟨Nat.zero_le _, Nat.zero_le _⟩ rfl rfl (Nat.le_of_ble_eq_true rfl) kl_1 rfl F ?_
  refine c_X2_told F hG (by omega) (by omega) ?_
  rw [show (56 : Int) + 0 = 56 by rfl]
  refine s_putiG 7 dX5_lookAtEstate_9 fl_X5_143 kl_4 (by decide) rfl rfl A (z := 7) rfl (by decide +kernel) hG (by first | exact hG.2 _ _ | exact b01_in _ | assumption | exact ⟨by omega, by omega⟩) (fun hG1 => ?_)
  refine s_iconst dX5_lookAtEstate_12 ?_
  refine s_istore_n dX5_lookAtEstate_13 (by decide) rfl (L' := [_, _]) rfl ?_
  refine lp_X5_lookAtEstate hd A W F hfr hw0 hf0 t0 t8 k0 k9 b0 b9 hbr q (h0 (w + 1) 1).toNat 0 _ hG1 (by omega) (by omega) ?_ (fun t q0 q1 => by omega) ?_ ?_
  · intro x y hx
    simp (disch := omega) only [hs_same, hs_ne, fl_in, fl_ne, cp_inn, cp_nee]
  · simp (disch := omega) only [hs_same, hs_ne, fl_in, fl_ne, cp_inn, cp_nee]
    simp [sumI]
  · simp (disch := omega) only [hs_same, hs_ne, fl_in, fl_ne, cp_inn, cp_nee]
    omega
set_option maxRecDepth 100000 in
set_option maxHeartbeats 4000000 in
theorem c_X5_claimThing {g t : Int} (hd : 3 ≤ d) (A : isO nN r 4) (hG : G h) (hw : h r 14 = w) (W : isO nN w 5) (hf : h r 15 = f) (F : isO nN f 1) (hfr : f + 1 < r) (hbr : ∀ t : Int, 0 ≤ t → t < 8 → 0 ≤ br_ h (f + 1) t ∧ br_ h (f + 1) t ≤ 9999) (hwo : ∀ t : Int, 0 ≤ t → t < 8 → 0 ≤ h (f + 1) t ∧ h (f + 1) t ≤ 9999) (q0 : 0 ≤ g) (q1 : g < 12) (t0 : 0 ≤ t) (t1 : t < 8) (k1 : h (f + 1) 60 = 1 → G (hs_ (hs_ h (r + 4 + 1 + g) 0 (br_ h (f + 1) t)) (r + 4 + 1 + g) 4 (max 0 (h (f + 1) t - br_ h (f + 1) t))) → Q.1 none nN (hs_ (hs_ h (r + 4 + 1 + g) 0 (br_ h (f + 1) t)) (r + 4 + 1 + g) 4 (max 0 (h (f + 1) t - br_ h (f + 1) t)))) (k0 : ¬ h (f + 1) 60 = 1 → G (hs_ h (r + 4 + 1 + g) 0 (br_ h (f + 1) t)) → Q.1 none nN (hs_ h (r + 4 + 1 + g) 0 (br_ h (f + 1) t))) : Cl_ yX5_claimThing MX5_claimThing d bc bs [(2, r), (0, g), (0, t)] nN h Q := by
  refine s_enter pn_X5 rfl (Nat.le_of_ble_eq_true rfl) (L := [(2, _), (0, _), (0, _), (9, 0)]) rfl ?_
  have hwv := io_of_5 W
  have hrv := io_of_4 A
  have hwr : w + 36 < r := by omega
  clear hwv hrv
  have hb := hbr t t0 t1
  have ho := hwo t t0 t1
  refine s_aload_n dX5_claimThing_0 rfl ?_
  refine s_getr dX5_claimThing_1 fl_X5_50 kl_4 (by decide) rfl A (z := 15) rfl (by first | exact hf | (simp (disch := omega) only [hs_same, hs_ne, fl_in, fl_ne, cp_inn, cp_nee]; exact hf)) (F).1 ?_
  refine s_iload_n dX5_claimThing_4 rfl ?_
  refine s_callV (d' := d - 1) (bc' := 0) (bs' := 0) (as := [_]) dX5_claimThing_5 vf_X5_149 (dd_ (by omega) (by decide)) ⟨Nat.zero_le _, Nat.zero_le _⟩ rfl rfl (Nat.le_of_ble_eq_true rfl) kl_1 rfl F ?_
  refine c_X2_brings (by omega) F hG (by omega) (by omega) ?_
  refine s_istore_n dX5_claimThing_8 (by decide) rfl (L' := [_, _, _, _]) rfl ?_
  refine s_aload_n dX5_claimThing_9 rfl ?_
  refine s_getr dX5_claimThing_10 fl_X5_24 kl_4 (by decide) rfl A (z := 3) rfl (rf_4_3 hG.1 A) (rk_4_3 A).1 ?_
  refine s_iload_n dX5_claimThing_13 rfl ?_
  refine s_aaload4 dX5_claimThing_14 (rk_4_3 A) (by omega) (by omega) (rw_4_3 hG.1 A (by omega) (by omega)) (rx_4_3 A (by omega) (by omega)).1 ?_
  refine s_iconst dX5_claimThing_15 ?_
  refine s_iload_n dX5_claimThing_16 rfl ?_
  refine s_iastoreG dX5_claimThing_17 (rx_4_3 A (by omega) (by omega)) (by omega) (by omega) hG (by first | exact hG.2 _ _ | exact b01_in _ | assumption | exact ⟨by omega, by omega⟩) (fun hG1 => ?_)
  refine s_aload_n dX5_claimThing_18 rfl ?_
  refine s_getr dX5_claimThing_19 fl_X5_50 kl_4 (by decide) rfl A (z := 15) rfl (by first | exact hf | (simp (disch := omega) only [hs_same, hs_ne, fl_in, fl_ne, cp_inn, cp_nee]; exact hf)) (F).1 ?_
  refine s_iconst dX5_claimThing_22 ?_
  refine s_callV (d' := d - 1) (bc' := 0) (bs' := 0) (as := [_]) dX5_claimThing_23 vf_X5_139 (dd_ (by omega) (by decide)) ⟨Nat.zero_le _, Nat.zero_le _⟩ rfl rfl (Nat.le_of_ble_eq_true rfl) kl_1 rfl F ?_
  refine c_X2_told F hG1 (by omega) (by omega) ?_
  try simp (disch := omega) only [hs_same, hs_ne, fl_in, fl_ne, cp_inn, cp_nee]
  rw [show (56 : Int) + 4 = 60 by rfl]
  refine s_iconst dX5_claimThing_26 ?_
  refine s_icmp_ne (tgt := 52) dX5_claimThing_27 (by decide) (by first | exact hG1.2 _ _ | exact hG.2 _ _ | exact b01_in _ | assumption | exact ⟨by omega, by omega⟩) (by first | exact hG1.2 _ _ | exact hG.2 _ _ | exact b01_in _ | assumption | exact ⟨by omega, by omega⟩) (fun c1 => ?_) (fun c1 => ?_)
  · first | exact s_return dX5_claimThing_52 rfl (k1 (by omega) hG1) | exact s_return dX5_claimThing_52 rfl (k0 (by omega) hG1)
  · refine s_aload_n dX5_claimThing_30 rfl ?_
    refine s_getr dX5_claimThing_31 fl_X5_24 kl_4 (by decide) rfl A (z := 3) rfl (rf_4_3 hG1.1 A) (rk_4_3 A).1 ?_
    refine s_iload_n dX5_claimThing_34 rfl ?_
    refine s_aaload4 dX5_claimThing_35 (rk_4_3 A) (by omega) (by omega) (rw_4_3 hG1.1 A (by omega) (by omega)) (rx_4_3 A (by omega) (by omega)).1 ?_
    refine s_iconst dX5_claimThing_36 ?_
    refine s_iconst dX5_claimThing_37 ?_
    refine s_aload_n dX5_claimThing_38 rfl ?_
    refine s_getr dX5_claimThing_39 fl_X5_50 kl_4 (by decide) rfl A (z := 15) rfl (by first | exact hf | (simp (disch := omega) only [hs_same, hs_ne, fl_in, fl_ne, cp_inn, cp_nee]; exact hf)) (F).1 ?_
    refine s_iload_n dX5_claimThing_42 rfl ?_
    refine s_callV (d' := d - 1) (bc' := 0) (bs' := 0) (as := [_]) dX5_claimThing_43 vf_X5_180 (dd_ (by omega) (by decide)) ⟨Nat.zero_le _, Nat.zero_le _⟩ rfl rfl (Nat.le_of_ble_eq_true rfl) kl_1 rfl F ?_
    refine c_X2_worth F hG1 (by omega) (by omega) ?_
    try simp (disch := omega) only [hs_same, hs_ne, fl_in, fl_ne, cp_inn, cp_nee]
    refine s_iload_n dX5_claimThing_46 rfl ?_
    refine s_isub dX5_claimThing_47 ?_
    refine s_mmax dX5_claimThing_48 jm_X5_152 (by first | exact hG1.2 _ _ | exact hG.2 _ _ | exact b01_in _ | assumption | exact ⟨by omega, by omega⟩) (by first | exact hG1.2 _ _ | exact hG.2 _ _ | exact b01_in _ | assumption | exact ⟨by omega, by omega⟩) (by omega) (Nat.le_of_ble_eq_true rfl) ?_
    refine s_iastoreG dX5_claimThing_51 (rx_4_3 A (by omega) (by omega)) (by omega) (by omega) hG1 (by first | exact hG1.2 _ _ | exact hG.2 _ _ | exact b01_in _ | assumption | exact ⟨by omega, by omega⟩) (fun hG2 => ?_)
    first | exact s_return dX5_claimThing_52 rfl (k1 (by omega) hG2) | exact s_return dX5_claimThing_52 rfl (k0 (by omega) hG2)
set_option maxRecDepth 100000 in
set_option maxHeartbeats 4000000 in
theorem c_X5_claimOutOfFund {g t m : Int} (hd : 3 ≤ d) (A : isO nN r 4) (hG : G h) (hw : h r 14 = w) (W : isO nN w 5) (hf : h r 15 = f) (F : isO nN f 1) (hfr : f + 1 < r) (q0 : 0 ≤ g) (q1 : g < 12) (t0 : 0 ≤ t) (t1 : t < 8) (hm : h (w + 35) g = m) (m0 : 0 ≤ m) (m9 : m ≤ 9999) (l0 : 0 ≤ h (r + 3) t) (l9 : h (r + 3) t ≤ 9999) (r0 : 0 ≤ h (w + 36) g) (r1 : h (w + 36) g < 7) (k : G (hs_ (hs_ (hs_ h (r + 3) t (h (r + 3) t - min m (h (r + 3) t))) (r + 4 + 1 + g) 0 (min m (h (r + 3) t))) (r + 4 + 1 + g) (h (w + 36) g) (m - min m (h (r + 3) t))) → Q.1 none nN (hs_ (hs_ (hs_ h (r + 3) t (h (r + 3) t - min m (h (r + 3) t))) (r + 4 + 1 + g) 0 (min m (h (r + 3) t))) (r + 4 + 1 + g) (h (w + 36) g) (m - min m (h (r + 3) t)))) : Cl_ yX5_claimOutOfFund MX5_claimOutOfFund d bc bs [(2, r), (0, g), (0, t)] nN h Q := by
  refine s_enter pn_X5 rfl (Nat.le_of_ble_eq_true rfl) (L := [(2, _), (0, _), (0, _), (9, 0), (9, 0)]) rfl ?_
  have hwv := io_of_5 W
  have hrv := io_of_4 A
  have hwr : w + 36 < r := by omega
  clear hwv hrv
  refine s_aload_n dX5_claimOutOfFund_0 rfl ?_
  refine s_getr dX5_claimOutOfFund_1 fl_X5_46 kl_4 (by decide) rfl A (z := 14) rfl (by first | exact hw | (simp (disch := omega) only [hs_same, hs_ne, fl_in, fl_ne, cp_inn, cp_nee]; exact hw)) (W).1 ?_
  refine s_getr dX5_claimOutOfFund_4 fl_X5_174 kl_5 (by decide) rfl W (z := 11) rfl (rf_5_11 hG.1 W) (rk_5_11 W).1 ?_
  refine s_iload_n dX5_claimOutOfFund_7 rfl ?_
  refine s_iaload dX5_claimOutOfFund_8 (rk_5_11 W) (by omega) (by omega) ?_
  rw [hm]
  refine s_istore_n dX5_claimOutOfFund_9 (by decide) rfl (L' := [_, _, _, _, _]) rfl ?_
  refine s_iload_n dX5_claimOutOfFund_10 rfl ?_
  refine s_aload_n dX5_claimOutOfFund_11 rfl ?_
  refine s_getr dX5_claimOutOfFund_12 fl_X5_19 kl_4 (by decide) rfl A (z := 2) rfl (rf_4_2 hG.1 A) (rk_4_2 A).1 ?_
  refine s_iload_n dX5_claimOutOfFund_15 rfl ?_
  refine s_iaload dX5_claimOutOfFund_16 (rk_4_2 A) (by omega) (by omega) ?_
  refine s_mmin dX5_claimOutOfFund_17 jm_X5_183 (by first | exact hG.2 _ _ | exact b01_in _ | assumption | exact ⟨by omega, by omega⟩) (by first | exact hG.2 _ _ | exact b01_in _ | assumption | exact ⟨by omega, by omega⟩) (by omega) (Nat.le_of_ble_eq_true rfl) ?_
  refine s_istore dX5_claimOutOfFund_20 (by decide) rfl (L' := [_, _, _, _, _]) rfl ?_
  refine s_aload_n dX5_claimOutOfFund_22 rfl ?_
  refine s_getr dX5_claimOutOfFund_23 fl_X5_19 kl_4 (by decide) rfl A (z := 2) rfl (rf_4_2 hG.1 A) (rk_4_2 A).1 ?_
  refine s_iload_n dX5_claimOutOfFund_26 rfl ?_
  refine s_dup2 dX5_claimOutOfFund_27 rfl rfl ?_
  refine s_iaload dX5_claimOutOfFund_28 (rk_4_2 A) (by omega) (by omega) ?_
  refine s_iload dX5_claimOutOfFund_29 rfl ?_
  refine s_isub dX5_claimOutOfFund_31 ?_
  refine s_iastoreG dX5_claimOutOfFund_32 (rk_4_2 A) (by omega) (by omega) hG (by first | exact hG.2 _ _ | exact b01_in _ | assumption | exact ⟨by omega, by omega⟩) (fun hG1 => ?_)
  refine s_aload_n dX5_claimOutOfFund_33 rfl ?_
  refine s_getr dX5_claimOutOfFund_34 fl_X5_24 kl_4 (by decide) rfl A (z := 3) rfl (rf_4_3 hG1.1 A) (rk_4_3 A).1 ?_
  refine s_iload_n dX5_claimOutOfFund_37 rfl ?_
  refine s_aaload4 dX5_claimOutOfFund_38 (rk_4_3 A) (by omega) (by omega) (rw_4_3 hG1.1 A (by omega) (by omega)) (rx_4_3 A (by omega) (by omega)).1 ?_
  refine s_iconst dX5_claimOutOfFund_39 ?_
  refine s_iload dX5_claimOutOfFund_40 rfl ?_
  refine s_iastoreG dX5_claimOutOfFund_42 (rx_4_3 A (by omega) (by omega)) (by omega) (by omega) hG1 (by first | exact hG1.2 _ _ | exact hG.2 _ _ | exact b01_in _ | assumption | exact ⟨by omega, by omega⟩) (fun hG2 => ?_)
  refine s_aload_n dX5_claimOutOfFund_43 rfl ?_
  refine s_getr dX5_claimOutOfFund_44 fl_X5_24 kl_4 (by decide) rfl A (z := 3) rfl (rf_4_3 hG2.1 A) (rk_4_3 A).1 ?_
  refine s_iload_n dX5_claimOutOfFund_47 rfl ?_
  refine s_aaload4 dX5_claimOutOfFund_48 (rk_4_3 A) (by omega) (by omega) (rw_4_3 hG2.1 A (by omega) (by omega)) (rx_4_3 A (by omega) (by omega)).1 ?_
  refine s_aload_n dX5_claimOutOfFund_49 rfl ?_
  refine s_getr dX5_claimOutOfFund_50 fl_X5_46 kl_4 (by decide) rfl A (z := 14) rfl (by first | exact hw | (simp (disch := omega) only [hs_same, hs_ne, fl_in, fl_ne, cp_inn, cp_nee]; exact hw)) (W).1 ?_
  refine s_getr dX5_claimOutOfFund_53 fl_X5_171 kl_5 (by decide) rfl W (z := 12) rfl (rf_5_12 hG2.1 W) (rk_5_12 W).1 ?_
  refine s_iload_n dX5_claimOutOfFund_56 rfl ?_
  refine s_iaload dX5_claimOutOfFund_57 (rk_5_12 W) (by omega) (by omega) ?_
  try simp (disch := omega) only [hs_same, hs_ne, fl_in, fl_ne, cp_inn, cp_nee]
  refine s_iload_n dX5_claimOutOfFund_58 rfl ?_
  refine s_iload dX5_claimOutOfFund_59 rfl ?_
  refine s_isub dX5_claimOutOfFund_61 ?_
  refine s_iastoreG dX5_claimOutOfFund_62 (rx_4_3 A (by omega) (by omega)) (by omega) (by omega) hG2 (by first | exact hG2.2 _ _ | exact hG.2 _ _ | exact b01_in _ | assumption | exact ⟨by omega, by omega⟩) (fun hG3 => ?_)
  exact s_return dX5_claimOutOfFund_63 rfl (k hG3)
set_option maxRecDepth 100000 in
set_option maxHeartbeats 4000000 in
theorem c_X5_claim {g : Int} (hd : 4 ≤ d) (A : isO nN r 4) (hG : G h) (hw : h r 14 = w) (W : isO nN w 5) (hf : h r 15 = f) (F : isO nN f 1) (hfr : f + 1 < r) (hbr : ∀ t : Int, 0 ≤ t → t < 8 → 0 ≤ br_ h (f + 1) t ∧ br_ h (f + 1) t ≤ 9999) (hwo : ∀ t : Int, 0 ≤ t → t < 8 → 0 ≤ h (f + 1) t ∧ h (f + 1) t ≤ 9999) (q0 : 0 ≤ g) (q1 : g < 12) (kd : 0 ≤ h (w + 32) g ∧ h (w + 32) g ≤ 3) (t0 : h (w + 32) g = 0 ∨ h (w + 32) g = 2 → 0 ≤ h (w + 34) g ∧ h (w + 34) g < 8) (m0 : 0 ≤ h (w + 35) g ∨ h (w + 32) g = 0) (m9 : h (w + 35) g ≤ 9999) (l0 : ∀ t : Int, 0 ≤ t → t < 8 → h (w + 32) g = 2 → h (w + 34) g = t → 0 ≤ h (r + 3) t ∧ h (r + 3) t ≤ 9999) (r0 : h (w + 32) g = 1 ∨ h (w + 32) g = 2 → 1 ≤ h (w + 36) g ∧ h (w + 36) g ≤ 4) (k : G (clm_ h r w f g) → Q.1 none nN (clm_ h r w f g)) : Cl_ yX5_claim MX5_claim d bc bs [(2, r), (0, g)] nN h Q := by
  refine s_enter pn_X5 rfl (Nat.le_of_ble_eq_true rfl) (L := [(2, _), (0, _), (9, 0)]) rfl ?_
  have hwv := io_of_5 W
  have hrv := io_of_4 A
  have hwr : w + 36 < r := by omega
  clear hwv hrv
  refine s_aload_n dX5_claim_0 rfl ?_
  refine s_getr dX5_claim_1 fl_X5_46 kl_4 (by decide) rfl A (z := 14) rfl (by first | exact hw | (simp (disch := omega) only [hs_same, hs_ne, fl_in, fl_ne, cp_inn, cp_nee]; exact hw)) (W).1 ?_
  refine s_getr dX5_claim_4 fl_X5_161 kl_5 (by decide) rfl W (z := 8) rfl (rf_5_8 hG.1 W) (rk_5_8 W).1 ?_
  refine s_iload_n dX5_claim_7 rfl ?_
  refine s_iaload dX5_claim_8 (rk_5_8 W) (by omega) (by omega) ?_
  refine s_istore_n dX5_claim_9 (by decide) rfl (L' := [_, _, _]) rfl ?_
  refine s_iload_n dX5_claim_10 rfl ?_
  refine s_if_ne (tgt := 31) dX5_claim_11 (by decide) (by first | exact hG.2 _ _ | exact b01_in _ | assumption | exact ⟨by omega, by omega⟩) (fun c1 => ?_) (fun c1 => ?_)
  · refine s_iload_n dX5_claim_31 rfl ?_
    refine s_iconst dX5_claim_32 ?_
    refine s_icmp_ne (tgt := 64) dX5_claim_33 (by decide) (by first | exact hG.2 _ _ | exact b01_in _ | assumption | exact ⟨by omega, by omega⟩) (by first | exact hG.2 _ _ | exact b01_in _ | assumption | exact ⟨by omega, by omega⟩) (fun c2 => ?_) (fun c2 => ?_)
    · refine s_iload_n dX5_claim_64 rfl ?_
      refine s_iconst dX5_claim_65 ?_
      refine s_icmp_ne (tgt := 83) dX5_claim_66 (by decide) (by first | exact hG.2 _ _ | exact b01_in _ | assumption | exact ⟨by omega, by omega⟩) (by first | exact hG.2 _ _ | exact b01_in _ | assumption | exact ⟨by omega, by omega⟩) (fun c3 => ?_) (fun c3 => ?_)
      · unfold clm_ at k
        rw [if_neg c1, if_neg c2, if_neg c3] at k
        exact s_return dX5_claim_83 rfl (k hG)
      · refine s_aload_n dX5_claim_69 rfl ?_
        refine s_iload_n dX5_claim_70 rfl ?_
        refine s_aload_n dX5_claim_71 rfl ?_
        refine s_getr dX5_claim_72 fl_X5_46 kl_4 (by decide) rfl A (z := 14) rfl (by first | exact hw | (simp (disch := omega) only [hs_same, hs_ne, fl_in, fl_ne, cp_inn, cp_nee]; exact hw)) (W).1 ?_
        refine s_getr dX5_claim_75 fl_X5_164 kl_5 (by decide) rfl W (z := 10) rfl (rf_5_10 hG.1 W) (rk_5_10 W).1 ?_
        refine s_iload_n dX5_claim_78 rfl ?_
        refine s_iaload dX5_claim_79 (rk_5_10 W) (by omega) (by omega) ?_
        refine s_callV (d' := d - 1) (bc' := 0) (bs' := 0) (as := [_, _]) dX5_claim_80 vf_X5_177 (dd_ (by omega) (by decide)) ⟨Nat.zero_le _, Nat.zero_le _⟩ rfl rfl (Nat.le_of_ble_eq_true rfl) kl_4 rfl A ?_
        have tt := t0 (Or.inr c3)
        have ll := l0 _ tt.1 tt.2 c3 rfl
        have rr := r0 (Or.inr c3)
        refine c_X5_claimOutOfFund (by omega) A hG hw W hf F hfr q0 q1 tt.1 tt.2 rfl (by omega) m9 ll.1 ll.2 (by omega) (by omega) (fun hg => ?_)
        unfold clm_ at k
        rw [if_neg c1, if_neg c2, if_pos c3] at k
        exact s_return dX5_claim_83 rfl (k hg)
    · have rr := r0 (Or.inl c2)
      refine s_aload_n dX5_claim_36 rfl ?_
      refine s_getr dX5_claim_37 fl_X5_24 kl_4 (by decide) rfl A (z := 3) rfl (rf_4_3 hG.1 A) (rk_4_3 A).1 ?_
      refine s_iload_n dX5_claim_40 rfl ?_
      refine s_aaload4 dX5_claim_41 (rk_4_3 A) (by omega) (by omega) (rw_4_3 hG.1 A (by omega) (by omega)) (rx_4_3 A (by omega) (by omega)).1 ?_
      refine s_aload_n dX5_claim_42 rfl ?_
      refine s_getr dX5_claim_43 fl_X5_46 kl_4 (by decide) rfl A (z := 14) rfl (by first | exact hw | (simp (disch := omega) only [hs_same, hs_ne, fl_in, fl_ne, cp_inn, cp_nee]; exact hw)) (W).1 ?_
      refine s_getr dX5_claim_46 fl_X5_171 kl_5 (by decide) rfl W (z := 12) rfl (rf_5_12 hG.1 W) (rk_5_12 W).1 ?_
      refine s_iload_n dX5_claim_49 rfl ?_
      refine s_iaload dX5_claim_50 (rk_5_12 W) (by omega) (by omega) ?_
      refine s_aload_n dX5_claim_51 rfl ?_
      refine s_getr dX5_claim_52 fl_X5_46 kl_4 (by decide) rfl A (z := 14) rfl (by first | exact hw | (simp (disch := omega) only [hs_same, hs_ne, fl_in, fl_ne, cp_inn, cp_nee]; exact hw)) (W).1 ?_
      refine s_getr dX5_claim_55 fl_X5_174 kl_5 (by decide) rfl W (z := 11) rfl (rf_5_11 hG.1 W) (rk_5_11 W).1 ?_
      refine s_iload_n dX5_claim_58 rfl ?_
      refine s_iaload dX5_claim_59 (rk_5_11 W) (by omega) (by omega) ?_
      refine s_iastoreG dX5_claim_60 (rx_4_3 A (by omega) (by omega)) (by omega) (by omega) hG (by first | exact hG.2 _ _ | exact b01_in _ | assumption | exact ⟨by omega, by omega⟩) (fun hG1 => ?_)
      refine s_goto (tgt := 83) dX5_claim_61 (by decide) ?_
      unfold clm_ at k
      rw [if_neg c1, if_pos c2] at k
      exact s_return dX5_claim_83 rfl (k hG1)
  · refine s_aload_n dX5_claim_14 rfl ?_
    refine s_iload_n dX5_claim_15 rfl ?_
    refine s_aload_n dX5_claim_16 rfl ?_
    refine s_getr dX5_claim_17 fl_X5_46 kl_4 (by decide) rfl A (z := 14) rfl (by first | exact hw | (simp (disch := omega) only [hs_same, hs_ne, fl_in, fl_ne, cp_inn, cp_nee]; exact hw)) (W).1 ?_
    refine s_getr dX5_claim_20 fl_X5_164 kl_5 (by decide) rfl W (z := 10) rfl (rf_5_10 hG.1 W) (rk_5_10 W).1 ?_
    refine s_iload_n dX5_claim_23 rfl ?_
    refine s_iaload dX5_claim_24 (rk_5_10 W) (by omega) (by omega) ?_
    refine s_callV (d' := d - 1) (bc' := 0) (bs' := 0) (as := [_, _]) dX5_claim_25 vf_X5_167 (dd_ (by omega) (by decide)) ⟨Nat.zero_le _, Nat.zero_le _⟩ rfl rfl (Nat.le_of_ble_eq_true rfl) kl_4 rfl A ?_
    have tt := t0 (Or.inl c1)
    refine c_X5_claimThing (by omega) A hG hw W hf F hfr hbr hwo q0 q1 tt.1 tt.2 (fun e hg => ?_) (fun e hg => ?_)
    · refine s_goto (tgt := 83) dX5_claim_28 (by decide) ?_
      unfold clm_ at k
      rw [if_pos c1, if_pos e] at k
      exact s_return dX5_claim_83 rfl (k hg)
    · refine s_goto (tgt := 83) dX5_claim_28 (by decide) ?_
      unfold clm_ at k
      rw [if_pos c1, if_neg e] at k
      exact s_return dX5_claim_83 rfl (k hg)
end X5D
