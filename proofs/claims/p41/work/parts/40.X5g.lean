/-! WillHouse$Reckoning, what writes: interest, all classes, the rest -/
section X5G
variable {d bc bs : Nat} {Q : PQ} {h : PH} {r w f : Int}
set_option maxRecDepth 100000 in
set_option maxHeartbeats 4000000 in
theorem lp_X5_claimInterest {h0 : PH} (hd : 3 ≤ d) (A : isO nN r 4) (hw0 : h0 r 14 = w) (W : isO nN w 5) (g0 : 0 ≤ h0 w 7) (g9 : h0 w 7 ≤ 12) (hf0 : h0 r 15 = f) (F : isO nN f 1) (hfr : f + 1 < r) (m0 : 0 ≤ h0 (f + 1) 58) (m9 : h0 (f + 1) 58 ≤ 240) (a0 : 0 ≤ h0 (f + 1) 59) (a9 : h0 (f + 1) 59 ≤ 99) (hgb : ∀ g : Int, 0 ≤ g → g < h0 w 7 → 0 ≤ sumI (fun j => h0 (r + 17 + 1 + g) j) 1 4 ∧ sumI (fun j => h0 (r + 17 + 1 + g) j) 1 4 ≤ 40000) (q : ∀ h' : PH, G h' → (∀ x y : Int, ¬ (r + 5 ≤ x ∧ x ≤ r + 16 ∧ y = 5) → h' x y = h0 x y) → (∀ g : Int, 0 ≤ g → g < h0 w 7 → h' (r + 4 + 1 + g) 5 = (sumI (fun j => h0 (r + 17 + 1 + g) j) 1 4 * h0 (f + 1) 59 * max 0 (h0 (f + 1) 58 - 12)).tdiv 1200) → Q.1 none nN h')  : ∀ (m : Nat) (i : Int) (h : PH), (G h) → (0 ≤ i) → (i + m = h0 w 7) → (∀ x y : Int, ¬ (r + 5 ≤ x ∧ x ≤ r + 16 ∧ y = 5) → h x y = h0 x y) → (∀ g : Int, 0 ≤ g → g < i → h (r + 4 + 1 + g) 5 = (sumI (fun j => h0 (r + 17 + 1 + g) j) 1 4 * h0 (f + 1) 59 * max 0 (h0 (f + 1) 58 - 12)).tdiv 1200) → S_ MX5_claimInterest d bc bs Q 18 [(2, r), (0, max 0 (h0 (f + 1) 58 - 12)), (0, i), (9, 0), (9, 0)] [] nN h := by
  intro m
  induction m with
  | zero =>
    intro i h hG i0 i1 fr v1
    have hwv := io_of_5 W
    have hrv := io_of_4 A
    have hwr : w + 36 < r := by omega
    clear hwv hrv
    have hw : h r 14 = w := by rw [fr r 14 (by omega)]; exact hw0
    have en := fr w 7 (by omega)
    have hf : h r 15 = f := by rw [fr r 15 (by omega)]; exact hf0
    refine s_iload_n dX5_claimInterest_18 rfl ?_
    refine s_aload_n dX5_claimInterest_19 rfl ?_
    refine s_getr dX5_claimInterest_20 fl_X5_46 kl_4 (by decide) rfl A (z := 14) rfl (by first | exact hw | (simp (disch := omega) only [hs_same, hs_ne, fl_in, fl_ne, cp_inn, cp_nee]; exact hw)) (W).1 ?_
    refine s_geti dX5_claimInterest_23 fl_X5_63 kl_5 (by decide) rfl W (z := 7) rfl ?_
    refine s_icmp_ge (tgt := 71) dX5_claimInterest_26 (by decide) (by first | exact hG.2 _ _ | exact b01_in _ | assumption | exact ⟨by omega, by omega⟩) (by first | exact hG.2 _ _ | exact b01_in _ | assumption | exact ⟨by omega, by omega⟩) (fun c1 => ?_) (fun c1 => ?_)
    · exact s_return dX5_claimInterest_71 rfl (q _ hG fr (fun g a b => v1 g a (by omega)))
    · exact absurd c1 (by omega)
  | succ m ih =>
    intro i h hG i0 i1 fr v1
    have hwv := io_of_5 W
    have hrv := io_of_4 A
    have hwr : w + 36 < r := by omega
    clear hwv hrv
    have hw : h r 14 = w := by rw [fr r 14 (by omega)]; exact hw0
    have en := fr w 7 (by omega)
    have hf : h r 15 = f := by rw [fr r 15 (by omega)]; exact hf0
    refine s_iload_n dX5_claimInterest_18 rfl ?_
    refine s_aload_n dX5_claimInterest_19 rfl ?_
    refine s_getr dX5_claimInterest_20 fl_X5_46 kl_4 (by decide) rfl A (z := 14) rfl (by first | exact hw | (simp (disch := omega) only [hs_same, hs_ne, fl_in, fl_ne, cp_inn, cp_nee]; exact hw)) (W).1 ?_
    refine s_geti dX5_claimInterest_23 fl_X5_63 kl_5 (by decide) rfl W (z := 7) rfl ?_
    refine s_icmp_ge (tgt := 71) dX5_claimInterest_26 (by decide) (by first | exact hG.2 _ _ | exact b01_in _ | assumption | exact ⟨by omega, by omega⟩) (by first | exact hG.2 _ _ | exact b01_in _ | assumption | exact ⟨by omega, by omega⟩) (fun c1 => ?_) (fun c1 => ?_)
    · exact absurd c1 (by omega)
    · refine s_aload_n dX5_claimInterest_29 rfl ?_
      refine s_iload_n dX5_claimInterest_30 rfl ?_
      refine s_iconst dX5_claimInterest_31 ?_
      refine s_iconst dX5_claimInterest_32 ?_
      refine s_callV (d' := d - 1) (bc' := 0) (bs' := 0) (as := [_, _, _]) dX5_claimInterest_33 vf_X5_195 (dd_ (by omega) (by decide)) ⟨Nat.zero_le _, Nat.zero_le _⟩ rfl rfl (Nat.le_of_ble_eq_true rfl) kl_4 rfl A ?_
      refine c_X5_gotIn (by omega) A hG (by omega) (by omega) (by omega) (by omega) (by omega) ?_
      rw [show (fun j : Int => h (r + 17 + 1 + i) j) = fun j => h0 (r + 17 + 1 + i) j from funext fun j => fr _ _ (by omega), show (4 + 1 - 1 : Int).toNat = 4 by rfl]
      have hs := hgb i (by omega) (by omega)
      have hci := ci_ hs.1 hs.2 a0 a9 (b := max 0 (h0 (f + 1) 58 - 12)) (by omega) (by omega)
      refine s_i2l dX5_claimInterest_36 (by first | exact hG.2 _ _ | exact b01_in _ | assumption | exact ⟨by omega, by omega⟩) ?_
      refine s_lstore_n dX5_claimInterest_37 (by decide) rfl (L' := [_, _, _, _, _]) rfl ?_
      refine s_aload_n dX5_claimInterest_38 rfl ?_
      refine s_getr dX5_claimInterest_39 fl_X5_24 kl_4 (by decide) rfl A (z := 3) rfl (rf_4_3 hG.1 A) (rk_4_3 A).1 ?_
      refine s_iload_n dX5_claimInterest_42 rfl ?_
      refine s_aaload4 dX5_claimInterest_43 (rk_4_3 A) (by omega) (by omega) (rw_4_3 hG.1 A (by omega) (by omega)) (rx_4_3 A (by omega) (by omega)).1 ?_
      refine s_iconst dX5_claimInterest_44 ?_
      refine s_lload_n dX5_claimInterest_45 rfl ?_
      refine s_aload_n dX5_claimInterest_46 rfl ?_
      refine s_getr dX5_claimInterest_47 fl_X5_50 kl_4 (by decide) rfl A (z := 15) rfl (by first | exact hf | (simp (disch := omega) only [hs_same, hs_ne, fl_in, fl_ne, cp_inn, cp_nee]; exact hf)) (F).1 ?_
      refine s_iconst dX5_claimInterest_50 ?_
      refine s_callV (d' := d - 1) (bc' := 0) (bs' := 0) (as := [_]) dX5_claimInterest_51 vf_X5_139 (dd_ (by omega) (by decide)) ⟨Nat.zero_le _, Nat.zero_le _⟩ rfl rfl (Nat.le_of_ble_eq_true rfl) kl_1 rfl F ?_
      refine c_X2_told F hG (by omega) (by omega) ?_
      rw [show (56 : Int) + 3 = 59 by rfl, fr (f + 1) 59 (by omega)]
      refine s_i2l dX5_claimInterest_54 (by first | exact hG.2 _ _ | exact b01_in _ | assumption | exact ⟨by omega, by omega⟩) ?_
      refine s_lmul dX5_claimInterest_55 ?_
      refine s_iload_n dX5_claimInterest_56 rfl ?_
      refine s_i2l dX5_claimInterest_57 (by first | exact hG.2 _ _ | exact b01_in _ | assumption | exact ⟨by omega, by omega⟩) ?_
      refine s_lmul dX5_claimInterest_58 ?_
      refine s_ldc2 dX5_claimInterest_59 kc_X5_199 ?_
      refine s_ldiv dX5_claimInterest_62 (by first | exact inI_L (by first | exact hG.2 _ _ | exact b01_in _ | assumption | exact ⟨by omega, by omega⟩) | exact ⟨by omega, by omega⟩) (by first | exact inI_L (by first | exact hG.2 _ _ | exact b01_in _ | assumption | exact ⟨by omega, by omega⟩) | exact ⟨by omega, by omega⟩) (by omega) (by omega) ?_
      refine s_l2i dX5_claimInterest_63 ?_
      refine s_iastoreG dX5_claimInterest_64 (rx_4_3 A (by omega) (by omega)) (by omega) (by omega) hG (by first | exact hG.2 _ _ | exact b01_in _ | assumption | exact ⟨by omega, by omega⟩) (fun hG1 => ?_)
      refine s_iinc dX5_claimInterest_65 rfl (by decide) rfl (L' := [_, _, _, _, _]) rfl ?_
      refine s_goto (tgt := 18) dX5_claimInterest_68 (by decide) ?_
      refine s_fg (L' := [(2, r), (0, _), (0, _), (9, 0), (9, 0)]) ⟨Or.inr rfl, Or.inr rfl, Or.inr rfl, Or.inl rfl, Or.inr rfl, trivial⟩ ?_
      refine ih (i + 1) _ hG1 (by omega) (by omega) ?_ ?_
      · intro x y hx
        simp (disch := omega) only [hs_same, hs_ne, fl_in, fl_ne, cp_inn, cp_nee]
        exact fr x y hx
      · intro g a b
        by_cases e : g = i
        · subst e
          simp (disch := omega) only [hs_same, hs_ne, fl_in, fl_ne, cp_inn, cp_nee]
        · simp (disch := omega) only [hs_same, hs_ne, fl_in, fl_ne, cp_inn, cp_nee]
          exact v1 g a (by omega)
set_option maxRecDepth 100000 in
set_option maxHeartbeats 4000000 in
theorem c_X5_claimInterest  {h0 : PH} (hd : 3 ≤ d) (A : isO nN r 4) (hw0 : h0 r 14 = w) (W : isO nN w 5) (g0 : 0 ≤ h0 w 7) (g9 : h0 w 7 ≤ 12) (hf0 : h0 r 15 = f) (F : isO nN f 1) (hfr : f + 1 < r) (m0 : 0 ≤ h0 (f + 1) 58) (m9 : h0 (f + 1) 58 ≤ 240) (a0 : 0 ≤ h0 (f + 1) 59) (a9 : h0 (f + 1) 59 ≤ 99) (hgb : ∀ g : Int, 0 ≤ g → g < h0 w 7 → 0 ≤ sumI (fun j => h0 (r + 17 + 1 + g) j) 1 4 ∧ sumI (fun j => h0 (r + 17 + 1 + g) j) 1 4 ≤ 40000) (hG : G h0) (q : ∀ h' : PH, G h' → (∀ x y : Int, ¬ (r + 5 ≤ x ∧ x ≤ r + 16 ∧ y = 5) → h' x y = h0 x y) → (∀ g : Int, 0 ≤ g → g < h0 w 7 → h' (r + 4 + 1 + g) 5 = (sumI (fun j => h0 (r + 17 + 1 + g) j) 1 4 * h0 (f + 1) 59 * max 0 (h0 (f + 1) 58 - 12)).tdiv 1200) → Q.1 none nN h')  : Cl_ yX5_claimInterest MX5_claimInterest d bc bs [(2, r)] nN h0 Q := by
  refine s_enter pn_X5 rfl (Nat.le_of_ble_eq_true rfl) (L := [(2, _), (9, 0), (9, 0), (9, 0), (9, 0)]) rfl ?_
  refine s_iconst dX5_claimInterest_0 ?_
  refine s_aload_n dX5_claimInterest_1 rfl ?_
  refine s_getr dX5_claimInterest_2 fl_X5_50 kl_4 (by decide) rfl A (z := 15) rfl hf0 (F).1 ?_
  refine s_iconst dX5_claimInterest_5 ?_
  refine s_callV (d' := d - 1) (bc' := 0) (bs' := 0) (as := [_]) dX5_claimInterest_6 vf_X5_139 (dd_ (by omega) (by decide)) ⟨Nat.zero_le _, Nat.zero_le _⟩ rfl rfl (Nat.le_of_ble_eq_true rfl) kl_1 rfl F ?_
  refine c_X2_told F hG (by omega) (by omega) ?_
  rw [show (56 : Int) + 2 = 58 by rfl]
  refine s_bipush dX5_claimInterest_9 (by decide) ?_
  refine s_isub dX5_claimInterest_11 ?_
  refine s_mmax dX5_claimInterest_12 jm_X5_152 (by first | exact hG.2 _ _ | exact b01_in _ | assumption | exact ⟨by omega, by omega⟩) (by first | exact hG.2 _ _ | exact b01_in _ | assumption | exact ⟨by omega, by omega⟩) (by omega) (Nat.le_of_ble_eq_true rfl) ?_
  refine s_istore_n dX5_claimInterest_15 (by decide) rfl (L' := [_, _, _, _, _]) rfl ?_
  refine s_iconst dX5_claimInterest_16 ?_
  refine s_istore_n dX5_claimInterest_17 (by decide) rfl (L' := [_, _, _, _, _]) rfl ?_
  exact lp_X5_claimInterest hd A hw0 W g0 g9 hf0 F hfr m0 m9 a0 a9 hgb q (h0 w 7).toNat 0 h0 hG (by omega) (by omega) (fun _ _ _ => rfl) (fun g a b => by omega)
set_option maxRecDepth 100000 in
set_option maxHeartbeats 4000000 in
theorem lp_X5_payClasses {h0 : PH} (hd : 4 ≤ d) (A : isO nN r 4) (hw0 : h0 r 14 = w) (W : isO nN w 5) (g0 : 0 ≤ h0 w 7) (g9 : h0 w 7 ≤ 12) (hf0 : h0 r 15 = f) (F : isO nN f 1) (hfr : f + 1 < r) (m0 : 0 ≤ h0 (f + 1) 58) (m9 : h0 (f + 1) 58 ≤ 240) (a0 : 0 ≤ h0 (f + 1) 59) (a9 : h0 (f + 1) 59 ≤ 99) (av0 : 0 ≤ h0 r 8) (av9 : h0 r 8 ≤ 1000000) (hdu : ∀ g c : Int, 0 ≤ g → g < h0 w 7 → 0 ≤ c → c ≤ 4 → 0 ≤ h0 (r + 4 + 1 + g) c ∧ h0 (r + 4 + 1 + g) c ≤ 9999) (hz : ∀ g c : Int, 0 ≤ g → g < h0 w 7 → 0 ≤ c → c ≤ 5 → h0 (r + 17 + 1 + g) c = 0) (q : ∀ h' : PH, G h' → (∀ x y : Int, ¬ (x = r + 44 ∨ x = r + 45 ∨ (r + 18 ≤ x ∧ x ≤ r + 29 ∧ 0 ≤ y ∧ y ≤ 5) ∨ (r + 5 ≤ x ∧ x ≤ r + 16 ∧ y = 5) ∨ (x = r ∧ (y = 12 ∨ y = 9))) → h' x y = h0 x y) → (∀ g c : Int, 0 ≤ g → g < h0 w 7 → 0 ≤ c → c ≤ 5 → h' (r + 17 + 1 + g) c = gt_ (d5_ (fun g c => h0 (r + 4 + 1 + g) c) (h0 w 7) (h0 r 8) (h0 (f + 1) 59) (max 0 (h0 (f + 1) 58 - 12))) (h0 w 7) (h0 r 8) g c) → (∀ g : Int, 0 ≤ g → g < h0 w 7 → h' (r + 4 + 1 + g) 5 = it_ (fun g c => h0 (r + 4 + 1 + g) c) (h0 w 7) (h0 r 8) (h0 (f + 1) 59) (max 0 (h0 (f + 1) 58 - 12)) g) → h' r 9 = lf_ (d5_ (fun g c => h0 (r + 4 + 1 + g) c) (h0 w 7) (h0 r 8) (h0 (f + 1) 59) (max 0 (h0 (f + 1) 58 - 12))) (h0 w 7) (h0 r 8) 6 → h' r 12 = ct_ (d5_ (fun g c => h0 (r + 4 + 1 + g) c) (h0 w 7) (h0 r 8) (h0 (f + 1) 59) (max 0 (h0 (f + 1) 58 - 12))) (h0 w 7) (h0 r 8) 6 → Q.1 none nN h')  : ∀ (m : Nat) (i left : Int) (h : PH), (G h) → (0 ≤ i) → (i + m = 5) → (left = lf_ (fun g c => h0 (r + 4 + 1 + g) c) (h0 w 7) (h0 r 8) i.toNat) → (∀ x y : Int, ¬ (x = r + 44 ∨ x = r + 45 ∨ (r + 18 ≤ x ∧ x ≤ r + 29 ∧ 0 ≤ y ∧ y < i) ∨ (x = r ∧ y = 12)) → h x y = h0 x y) → (∀ g c : Int, 0 ≤ g → g < h0 w 7 → 0 ≤ c → c < i → h (r + 17 + 1 + g) c = gt_ (fun g c => h0 (r + 4 + 1 + g) c) (h0 w 7) (h0 r 8) g c) → (h r 12 = ct_ (fun g c => h0 (r + 4 + 1 + g) c) (h0 w 7) (h0 r 8) i.toNat) → S_ MX5_payClasses d bc bs Q 7 [(2, r), (0, left), (0, i)] [] nN h := by
  intro m
  induction m with
  | zero =>
    intro i left h hG i0 i1 el fr v1 v2
    have hwv := io_of_5 W
    have hrv := io_of_4 A
    have hwr : w + 36 < r := by omega
    clear hwv hrv
    have hw : h r 14 = w := by rw [fr r 14 (by omega)]; exact hw0
    have en := fr w 7 (by omega)
    have hf : h r 15 = f := by rw [fr r 15 (by omega)]; exact hf0
    have hl := lf_bd (D := (fun g c => h0 (r + 4 + 1 + g) c)) (n := h0 w 7) av0 i.toNat (fun g c a b c0 c1 => (hdu g c a b c0 (by omega)).1)
    refine s_iload_n dX5_payClasses_7 rfl ?_
    refine s_iconst dX5_payClasses_8 ?_
    refine s_icmp_gt (tgt := 25) dX5_payClasses_9 (by decide) (by first | exact hG.2 _ _ | exact b01_in _ | assumption | exact ⟨by omega, by omega⟩) (by first | exact hG.2 _ _ | exact b01_in _ | assumption | exact ⟨by omega, by omega⟩) (fun c1 => ?_) (fun c1 => ?_)
    · refine s_aload_n dX5_payClasses_25 rfl ?_
      refine s_callV (d' := d - 1) (bc' := 0) (bs' := 0) (as := []) dX5_payClasses_26 vf_X5_189 (dd_ (by omega) (by decide)) ⟨Nat.zero_le _, Nat.zero_le _⟩ rfl rfl (Nat.le_of_ble_eq_true rfl) kl_4 rfl A ?_
      have ei : i = 5 := by omega
      subst ei
      have esu : ∀ g : Int, 0 ≤ g → g < h0 w 7 → sumI (fun j => h (r + 17 + 1 + g) j) 1 4 = sumI (fun c => gt_ (fun g c => h0 (r + 4 + 1 + g) c) (h0 w 7) (h0 r 8) g c) 1 4 := fun g a b => sumI_congr 4 1 (fun c c0 c1 => v1 g c a b (by omega) (by omega))
      have hit := it_bd (D := (fun g c => h0 (r + 4 + 1 + g) c)) (n := h0 w 7) (av := h0 r 8) (rt := h0 (f + 1) 59) (late := max 0 (h0 (f + 1) 58 - 12)) av0 a0 a9 (by omega) (by omega) hdu
      refine c_X5_claimInterest (by omega) A hw W (by omega) (by omega) hf F hfr (by rw [fr _ _ (by omega)]; exact m0) (by rw [fr _ _ (by omega)]; exact m9) (by rw [fr _ _ (by omega)]; exact a0) (by rw [fr _ _ (by omega)]; exact a9) (fun g a b => ?_) hG (fun h2 hG1 fr2 ev2 => ?_)
      · rw [esu g a (by omega)]
        have := hit g a (by omega)
        omega
      have hw2 : h2 r 14 = w := by rw [fr2 r 14 (by omega)]; exact hw
      have en2 : h2 w 7 = h0 w 7 := by rw [fr2 w 7 (by omega)]; exact en
      have ev2 : ∀ g : Int, 0 ≤ g → g < h0 w 7 → h2 (r + 4 + 1 + g) 5 = it_ (fun g c => h0 (r + 4 + 1 + g) c) (h0 w 7) (h0 r 8) (h0 (f + 1) 59) (max 0 (h0 (f + 1) 58 - 12)) g := fun g a b => by
        rw [ev2 g a (by omega), esu g a b, fr _ _ (by omega), fr _ _ (by omega)]
        rfl
      refine s_aload_n dX5_payClasses_29 rfl ?_
      refine s_aload_n dX5_payClasses_30 rfl ?_
      refine s_iconst dX5_payClasses_31 ?_
      refine s_iload_n dX5_payClasses_32 rfl ?_
      refine s_callV (d' := d - 1) (bc' := 0) (bs' := 0) (as := [_, _]) dX5_payClasses_33 vf_X5_186 (dd_ (by omega) (by decide)) ⟨Nat.zero_le _, Nat.zero_le _⟩ rfl rfl (Nat.le_of_ble_eq_true rfl) kl_4 rfl A ?_
      refine c_X5_payClass (by omega) A hw2 W (by omega) (by omega) (by omega) (by omega) (by omega) (by omega) (fun g a b => ?_) (fun g a b => ?_) hG1 (fun h3 hG2 fr3 ev3 ct3 => ?_)
      · rw [ev2 g a (by omega)]
        have := hit g a (by omega)
        omega
      · rw [fr2 _ _ (by omega), fr _ _ (by omega)]
        exact hz g 5 a (by omega) (by omega) (by omega)
      have ecs : cs_ (fun g c => h2 (r + 4 + 1 + g) c) (h2 w 7) 5 = cs_ (d5_ (fun g c => h0 (r + 4 + 1 + g) c) (h0 w 7) (h0 r 8) (h0 (f + 1) 59) (max 0 (h0 (f + 1) 58 - 12))) (h0 w 7) 5 := by
        rw [en2]
        exact cs_congr (fun g a b => by rw [d5_5]; exact ev2 g a b)
      have el5 : left = lf_ (d5_ (fun g c => h0 (r + 4 + 1 + g) c) (h0 w 7) (h0 r 8) (h0 (f + 1) 59) (max 0 (h0 (f + 1) 58 - 12))) (h0 w 7) (h0 r 8) 5 := by
        rw [el]
        exact d5_lf _ _ _ _ _ (Nat.le_refl 5)
      have hl6 := lf_bd (D := d5_ (fun g c => h0 (r + 4 + 1 + g) c) (h0 w 7) (h0 r 8) (h0 (f + 1) 59) (max 0 (h0 (f + 1) 58 - 12))) (n := h0 w 7) av0 6 (fun g c a b c0 c1 => by
        by_cases e : c = 5
        · subst e
          rw [d5_5]
          exact (hit g a b).2.2.1
        · rw [d5_lo (by omega)]
          exact (hdu g c a b c0 (by omega)).1)
      have el6 : max 0 (left - cs_ (fun g c => h2 (r + 4 + 1 + g) c) (h2 w 7) 5) = lf_ (d5_ (fun g c => h0 (r + 4 + 1 + g) c) (h0 w 7) (h0 r 8) (h0 (f + 1) 59) (max 0 (h0 (f + 1) 58 - 12))) (h0 w 7) (h0 r 8) 6 := by
        rw [ecs, el5]
        rfl
      rw [el6]
      refine s_putiG 9 dX5_payClasses_36 fl_X5_192 kl_4 (by decide) rfl rfl A (z := 9) rfl (by decide +kernel) hG2 (by first | exact hG2.2 _ _ | exact hG.2 _ _ | exact b01_in _ | assumption | exact ⟨by omega, by omega⟩) (fun hG3 => ?_)
      refine s_return dX5_payClasses_39 rfl (q _ hG3 ?_ ?_ ?_ ?_ ?_)
      · intro x y hx
        simp (disch := omega) only [hs_same, hs_ne, fl_in, fl_ne, cp_inn, cp_nee]
        rw [fr3 x y (by omega), fr2 x y (by omega)]
        exact fr x y (by omega)
      · intro g c a b c0 c1
        simp (disch := omega) only [hs_same, hs_ne, fl_in, fl_ne, cp_inn, cp_nee]
        by_cases e : c = 5
        · subst e
          rw [ev3 g a (by omega), ecs, en2, el5]
          exact pt_congr (fun x x0 x1 => by rw [d5_5]; exact ev2 x x0 x1) g a b
        · rw [fr3 _ _ (by omega), fr2 _ _ (by omega), v1 g c a b c0 (by omega)]
          exact d5_gt _ _ _ _ _ c0 (by omega) g a b
      · intro g a b
        simp (disch := omega) only [hs_same, hs_ne, fl_in, fl_ne, cp_inn, cp_nee]
        rw [fr3 _ _ (by omega)]
        exact ev2 g a b
      · simp (disch := omega) only [hs_same, hs_ne, fl_in, fl_ne, cp_inn, cp_nee]
      · simp (disch := omega) only [hs_same, hs_ne, fl_in, fl_ne, cp_inn, cp_nee]
        rw [ct3, ecs, fr2 _ _ (by omega), v2, el5]
        rw [show ct_ (fun g c => h0 (r + 4 + 1 + g) c) (h0 w 7) (h0 r 8) (5 : Int).toNat = ct_ (d5_ (fun g c => h0 (r + 4 + 1 + g) c) (h0 w 7) (h0 r 8) (h0 (f + 1) 59) (max 0 (h0 (f + 1) 58 - 12))) (h0 w 7) (h0 r 8) 5 from d5_ct _ _ _ _ _ (Nat.le_refl 5)]
        rfl
    · exact absurd c1 (by omega)
  | succ m ih =>
    intro i left h hG i0 i1 el fr v1 v2
    have hwv := io_of_5 W
    have hrv := io_of_4 A
    have hwr : w + 36 < r := by omega
    clear hwv hrv
    have hw : h r 14 = w := by rw [fr r 14 (by omega)]; exact hw0
    have en := fr w 7 (by omega)
    have hf : h r 15 = f := by rw [fr r 15 (by omega)]; exact hf0
    have hl := lf_bd (D := (fun g c => h0 (r + 4 + 1 + g) c)) (n := h0 w 7) av0 i.toNat (fun g c a b c0 c1 => (hdu g c a b c0 (by omega)).1)
    refine s_iload_n dX5_payClasses_7 rfl ?_
    refine s_iconst dX5_payClasses_8 ?_
    refine s_icmp_gt (tgt := 25) dX5_payClasses_9 (by decide) (by first | exact hG.2 _ _ | exact b01_in _ | assumption | exact ⟨by omega, by omega⟩) (by first | exact hG.2 _ _ | exact b01_in _ | assumption | exact ⟨by omega, by omega⟩) (fun c1 => ?_) (fun c1 => ?_)
    · exact absurd c1 (by omega)
    · refine s_aload_n dX5_payClasses_12 rfl ?_
      refine s_iload_n dX5_payClasses_13 rfl ?_
      refine s_iload_n dX5_payClasses_14 rfl ?_
      refine s_callV (d' := d - 1) (bc' := 0) (bs' := 0) (as := [_, _]) dX5_payClasses_15 vf_X5_186 (dd_ (by omega) (by decide)) ⟨Nat.zero_le _, Nat.zero_le _⟩ rfl rfl (Nat.le_of_ble_eq_true rfl) kl_4 rfl A ?_
      refine c_X5_payClass (by omega) A hw W (by omega) (by omega) (by omega) (by omega) (by omega) (by omega) (fun g a b => ?_) (fun g a b => ?_) hG (fun h2 hG1 fr2 ev2 ct2 => ?_)
      · rw [fr _ _ (by omega)]
        have := hdu g i a (by omega) (by omega) (by omega)
        omega
      · rw [fr _ _ (by omega)]
        exact hz g i a (by omega) (by omega) (by omega)
      have ecs : cs_ (fun g c => h (r + 4 + 1 + g) c) (h w 7) i = cs_ (fun g c => h0 (r + 4 + 1 + g) c) (h0 w 7) i := by
        rw [en]
        exact cs_congr (fun g a b => fr _ _ (by omega))
      rw [ecs] at ct2 ev2 ⊢
      refine s_istore_n dX5_payClasses_18 (by decide) rfl (L' := [_, _, _]) rfl ?_
      refine s_iinc dX5_payClasses_19 rfl (by decide) rfl (L' := [_, _, _]) rfl ?_
      refine s_goto (tgt := 7) dX5_payClasses_22 (by decide) ?_
      refine ih (i + 1) _ _ hG1 (by omega) (by omega) (by rw [lf_up i0, el]) ?_ ?_ ?_
      · intro x y hx
        rw [fr2 x y (by omega)]
        exact fr x y (by omega)
      · intro g c a b c0 c1
        by_cases e : c = i
        · subst e
          rw [ev2 g a (by omega), en, el]
          exact pt_congr (fun x x0 x1 => fr _ _ (by omega)) g a b
        · rw [fr2 _ _ (by omega)]
          exact v1 g c a b c0 (by omega)
      · rw [ct2, ct_up i0, v2, el]
set_option maxRecDepth 100000 in
set_option maxHeartbeats 4000000 in
theorem c_X5_payClasses  {h0 : PH} (hd : 4 ≤ d) (A : isO nN r 4) (hw0 : h0 r 14 = w) (W : isO nN w 5) (g0 : 0 ≤ h0 w 7) (g9 : h0 w 7 ≤ 12) (hf0 : h0 r 15 = f) (F : isO nN f 1) (hfr : f + 1 < r) (m0 : 0 ≤ h0 (f + 1) 58) (m9 : h0 (f + 1) 58 ≤ 240) (a0 : 0 ≤ h0 (f + 1) 59) (a9 : h0 (f + 1) 59 ≤ 99) (av0 : 0 ≤ h0 r 8) (av9 : h0 r 8 ≤ 1000000) (hdu : ∀ g c : Int, 0 ≤ g → g < h0 w 7 → 0 ≤ c → c ≤ 4 → 0 ≤ h0 (r + 4 + 1 + g) c ∧ h0 (r + 4 + 1 + g) c ≤ 9999) (hz : ∀ g c : Int, 0 ≤ g → g < h0 w 7 → 0 ≤ c → c ≤ 5 → h0 (r + 17 + 1 + g) c = 0) (hct : h0 r 12 = -1) (hG : G h0) (q : ∀ h' : PH, G h' → (∀ x y : Int, ¬ (x = r + 44 ∨ x = r + 45 ∨ (r + 18 ≤ x ∧ x ≤ r + 29 ∧ 0 ≤ y ∧ y ≤ 5) ∨ (r + 5 ≤ x ∧ x ≤ r + 16 ∧ y = 5) ∨ (x = r ∧ (y = 12 ∨ y = 9))) → h' x y = h0 x y) → (∀ g c : Int, 0 ≤ g → g < h0 w 7 → 0 ≤ c → c ≤ 5 → h' (r + 17 + 1 + g) c = gt_ (d5_ (fun g c => h0 (r + 4 + 1 + g) c) (h0 w 7) (h0 r 8) (h0 (f + 1) 59) (max 0 (h0 (f + 1) 58 - 12))) (h0 w 7) (h0 r 8) g c) → (∀ g : Int, 0 ≤ g → g < h0 w 7 → h' (r + 4 + 1 + g) 5 = it_ (fun g c => h0 (r + 4 + 1 + g) c) (h0 w 7) (h0 r 8) (h0 (f + 1) 59) (max 0 (h0 (f + 1) 58 - 12)) g) → h' r 9 = lf_ (d5_ (fun g c => h0 (r + 4 + 1 + g) c) (h0 w 7) (h0 r 8) (h0 (f + 1) 59) (max 0 (h0 (f + 1) 58 - 12))) (h0 w 7) (h0 r 8) 6 → h' r 12 = ct_ (d5_ (fun g c => h0 (r + 4 + 1 + g) c) (h0 w 7) (h0 r 8) (h0 (f + 1) 59) (max 0 (h0 (f + 1) 58 - 12))) (h0 w 7) (h0 r 8) 6 → Q.1 none nN h')  : Cl_ yX5_payClasses MX5_payClasses d bc bs [(2, r)] nN h0 Q := by
  refine s_enter pn_X5 rfl (Nat.le_of_ble_eq_true rfl) (L := [(2, _), (9, 0), (9, 0)]) rfl ?_
  refine s_aload_n dX5_payClasses_0 rfl ?_
  refine s_geti dX5_payClasses_1 fl_X5_158 kl_4 (by decide) rfl A (z := 8) rfl ?_
  refine s_istore_n dX5_payClasses_4 (by decide) rfl (L' := [_, _, _]) rfl ?_
  refine s_iconst dX5_payClasses_5 ?_
  refine s_istore_n dX5_payClasses_6 (by decide) rfl (L' := [_, _, _]) rfl ?_
  exact lp_X5_payClasses hd A hw0 W g0 g9 hf0 F hfr m0 m9 a0 a9 av0 av9 hdu hz q 5 0 _ h0 hG (by omega) (by omega) rfl (fun _ _ _ => rfl) (fun g c a b => by omega) hct
end X5G
