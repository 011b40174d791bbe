/-! WillHouse$Reckoning, what writes: an amount parted by weights -/
section X5E
variable {d bc bs : Nat} {Q : PQ} {h : PH} {r w f : Int}
set_option maxRecDepth 100000 in
set_option maxHeartbeats 4000000 in
theorem lp_X5_greatestRest  (A : isO nN r 4) (hw : h r 14 = w) (W : isO nN w 5) (g0 : 0 ≤ h w 7) (g9 : h w 7 ≤ 12) (hG : G h) (k : Q.1 (some (0, am_ (h (r + 45)) 0 1 (h w 7 - 1).toNat)) nN h) : ∀ (m : Nat) (b i : Int), (1 ≤ i ∧ i ≤ h w 7 + 1) → (m = (h w 7 - i).toNat) → (0 ≤ b ∧ b < i) → (b < 12) → (am_ (h (r + 45)) 0 1 (h w 7 - 1).toNat = am_ (h (r + 45)) b i m) → S_ MX5_greatestRest d bc bs Q 4 [(2, r), (0, b), (0, i)] [] nN h := by
  intro m
  induction m with
  | zero =>
    intro b i i0 i1 b0 b1 e
    refine s_iload_n dX5_greatestRest_4 rfl ?_
    refine s_aload_n dX5_greatestRest_5 rfl ?_
    refine s_getr dX5_greatestRest_6 fl_X5_46 kl_4 (by decide) rfl A (z := 14) rfl (by first | exact hw | (simp (disch := omega) only [hs_same, hs_ne, fl_in, fl_ne, cp_inn, cp_nee]; exact hw)) (W).1 ?_
    refine s_geti dX5_greatestRest_9 fl_X5_63 kl_5 (by decide) rfl W (z := 7) rfl ?_
    refine s_icmp_ge (tgt := 39) dX5_greatestRest_12 (by decide) (by first | exact hG.2 _ _ | exact b01_in _ | assumption | exact ⟨by omega, by omega⟩) (by first | exact hG.2 _ _ | exact b01_in _ | assumption | exact ⟨by omega, by omega⟩) (fun c1 => ?_) (fun c1 => ?_)
    · refine s_iload_n dX5_greatestRest_39 rfl ?_
      rw [e] at k
      exact s_ireturn dX5_greatestRest_40 rfl k
    · exact absurd c1 (by omega)
  | succ m ih =>
    intro b i i0 i1 b0 b1 e
    refine s_iload_n dX5_greatestRest_4 rfl ?_
    refine s_aload_n dX5_greatestRest_5 rfl ?_
    refine s_getr dX5_greatestRest_6 fl_X5_46 kl_4 (by decide) rfl A (z := 14) rfl (by first | exact hw | (simp (disch := omega) only [hs_same, hs_ne, fl_in, fl_ne, cp_inn, cp_nee]; exact hw)) (W).1 ?_
    refine s_geti dX5_greatestRest_9 fl_X5_63 kl_5 (by decide) rfl W (z := 7) rfl ?_
    refine s_icmp_ge (tgt := 39) dX5_greatestRest_12 (by decide) (by first | exact hG.2 _ _ | exact b01_in _ | assumption | exact ⟨by omega, by omega⟩) (by first | exact hG.2 _ _ | exact b01_in _ | assumption | exact ⟨by omega, by omega⟩) (fun c1 => ?_) (fun c1 => ?_)
    · exact absurd c1 (by omega)
    · refine s_aload_n dX5_greatestRest_15 rfl ?_
      refine s_getr dX5_greatestRest_16 fl_X5_39 kl_4 (by decide) rfl A (z := 17) rfl (rf_4_17 hG.1 A) (rk_4_17 A).1 ?_
      refine s_iload_n dX5_greatestRest_19 rfl ?_
      refine s_laload dX5_greatestRest_20 (rk_4_17 A) (by omega) (by omega) ?_
      refine s_aload_n dX5_greatestRest_21 rfl ?_
      refine s_getr dX5_greatestRest_22 fl_X5_39 kl_4 (by decide) rfl A (z := 17) rfl (rf_4_17 hG.1 A) (rk_4_17 A).1 ?_
      refine s_iload_n dX5_greatestRest_25 rfl ?_
      refine s_laload dX5_greatestRest_26 (rk_4_17 A) (by omega) (by omega) ?_
      refine s_lcmp_le (tgt := 33) dX5_greatestRest_27 dX5_greatestRest_28 (by decide) (by first | exact inI_L (by first | exact hG.2 _ _ | exact b01_in _ | assumption | exact ⟨by omega, by omega⟩) | exact ⟨by omega, by omega⟩) (by first | exact inI_L (by first | exact hG.2 _ _ | exact b01_in _ | assumption | exact ⟨by omega, by omega⟩) | exact ⟨by omega, by omega⟩) (fun c2 => ?_) (fun c2 => ?_)
      · refine s_iinc dX5_greatestRest_33 rfl (by decide) rfl (L' := [_, _, _]) rfl ?_
        refine s_goto (tgt := 4) dX5_greatestRest_36 (by decide) ?_
        first | exact ih _ (i + 1) (by omega) (by omega) (by omega) (by omega) (by rw [e, am_, if_pos (by omega)]) | exact ih _ (i + 1) (by omega) (by omega) (by omega) (by omega) (by rw [e, am_, if_neg (by omega)])
      · refine s_iload_n dX5_greatestRest_31 rfl ?_
        refine s_istore_n dX5_greatestRest_32 (by decide) rfl (L' := [_, _, _]) rfl ?_
        refine s_iinc dX5_greatestRest_33 rfl (by decide) rfl (L' := [_, _, _]) rfl ?_
        refine s_goto (tgt := 4) dX5_greatestRest_36 (by decide) ?_
        first | exact ih _ (i + 1) (by omega) (by omega) (by omega) (by omega) (by rw [e, am_, if_pos (by omega)]) | exact ih _ (i + 1) (by omega) (by omega) (by omega) (by omega) (by rw [e, am_, if_neg (by omega)])
set_option maxRecDepth 100000 in
set_option maxHeartbeats 4000000 in
theorem c_X5_greatestRest  (A : isO nN r 4) (hw : h r 14 = w) (W : isO nN w 5) (g0 : 0 ≤ h w 7) (g9 : h w 7 ≤ 12) (hG : G h) (k : Q.1 (some (0, am_ (h (r + 45)) 0 1 (h w 7 - 1).toNat)) nN h) : Cl_ yX5_greatestRest MX5_greatestRest d bc bs [(2, r)] nN h Q := by
  refine s_enter pn_X5 rfl (Nat.le_of_ble_eq_true rfl) (L := [(2, _), (9, 0), (9, 0)]) rfl ?_
  refine s_iconst dX5_greatestRest_0 ?_
  refine s_istore_n dX5_greatestRest_1 (by decide) rfl (L' := [_, _, _]) rfl ?_
  refine s_iconst dX5_greatestRest_2 ?_
  refine s_istore_n dX5_greatestRest_3 (by decide) rfl (L' := [_, _, _]) rfl ?_
  exact lp_X5_greatestRest A hw W g0 g9 hG k (h w 7 - 1).toNat 0 1 (by omega) rfl (by omega) (by omega) rfl
set_option maxRecDepth 100000 in
set_option maxHeartbeats 4000000 in
theorem lp_X5_pbw3  {h0 : PH} (hd : 2 ≤ d) (A : isO nN r 4) (hw0 : h0 r 14 = w) (W : isO nN w 5) (g1 : 1 ≤ h0 w 7) (g9 : h0 w 7 ≤ 12) {c m0 all ov : Int} (cc0 : 0 ≤ c) (cc1 : c < 7) (ov9 : ov ≤ 1000000) (ov8 : -12000000 ≤ ov) (GF : Int → Int) (q : ∀ h' : PH, G h' → (∀ x y : Int, ¬ (x = r + 45 ∨ (r + 18 ≤ x ∧ x ≤ r + 29 ∧ y = c)) → h' x y = h0 x y) → (∀ g : Int, 0 ≤ g → g < h0 w 7 → h' (r + 17 + 1 + g) c = GF g) → Q.1 none nN h') : ∀ (m : Nat) (i : Int) (h : PH), (G h) → (0 ≤ i ∧ i ≤ 1000001) → (m = (ov - i).toNat) → (∀ x y : Int, ¬ (x = r + 45 ∨ (r + 18 ≤ x ∧ x ≤ r + 29 ∧ y = c)) → h x y = h0 x y) → (∀ g : Int, 0 ≤ g → g < h0 w 7 → GF g = lr_ (h0 w 7 - 1).toNat m (fun g => h (r + 17 + 1 + g) c) (h (r + 45)) g) → (∀ g : Int, 0 ≤ g → g < h0 w 7 → 0 ≤ h (r + 17 + 1 + g) c ∧ h (r + 17 + 1 + g) c ≤ 1000000 + i) → S_ MX5_partByWeights d bc bs Q 120 [(2, r), (0, c), (0, m0), (1, all), (9, 0), (0, ov), (0, i), (9, 0), (9, 0)] [] nN h := by
  intro m
  induction m with
  | zero =>
    intro i h hG i0 i1 fr ev bd
    have hwv := io_of_5 W
    have hrv := io_of_4 A
    have hwr : w + 36 < r := by omega
    clear hwv hrv
    have hw : h r 14 = w := by rw [fr r 14 (by omega)]; exact hw0
    have en := fr w 7 (by omega)
    refine s_iload dX5_partByWeights_120 rfl ?_
    refine s_iload dX5_partByWeights_122 rfl ?_
    refine s_icmp_ge (tgt := 160) dX5_partByWeights_124 (by decide) (by first | exact hG.2 _ _ | exact b01_in _ | assumption | exact ⟨by omega, by omega⟩) (by first | exact hG.2 _ _ | exact b01_in _ | assumption | exact ⟨by omega, by omega⟩) (fun c1 => ?_) (fun c1 => ?_)
    · exact s_return dX5_partByWeights_160 rfl (q _ hG fr (fun g g0 gn => (ev g g0 gn).symm))
    · exact absurd c1 (by omega)
  | succ m ih =>
    intro i h hG i0 i1 fr ev bd
    have hwv := io_of_5 W
    have hrv := io_of_4 A
    have hwr : w + 36 < r := by omega
    clear hwv hrv
    have hw : h r 14 = w := by rw [fr r 14 (by omega)]; exact hw0
    have en := fr w 7 (by omega)
    refine s_iload dX5_partByWeights_120 rfl ?_
    refine s_iload dX5_partByWeights_122 rfl ?_
    refine s_icmp_ge (tgt := 160) dX5_partByWeights_124 (by decide) (by first | exact hG.2 _ _ | exact b01_in _ | assumption | exact ⟨by omega, by omega⟩) (by first | exact hG.2 _ _ | exact b01_in _ | assumption | exact ⟨by omega, by omega⟩) (fun c1 => ?_) (fun c1 => ?_)
    · exact absurd c1 (by omega)
    · refine s_aload_n dX5_partByWeights_127 rfl ?_
      refine s_callV (d' := d - 1) (bc' := 0) (bs' := 0) (as := []) dX5_partByWeights_128 vf_X5_207 (dd_ (by omega) (by decide)) ⟨Nat.zero_le _, Nat.zero_le _⟩ rfl rfl (Nat.le_of_ble_eq_true rfl) kl_4 rfl A ?_
      refine c_X5_greatestRest A hw W (by omega) (by omega) hG ?_
      rw [en]
      generalize ea : am_ (h (r + 45)) 0 1 (h0 w 7 - 1).toNat = a
      have ar := am_rng (h (r + 45)) (h0 w 7 - 1).toNat 0 1 (by omega) (by omega)
      rw [ea] at ar
      have ba := bd a (by omega) (by omega)
      refine s_istore dX5_partByWeights_131 (by decide) rfl (L' := [_, _, _, _, _, _, _, _, _]) rfl ?_
      refine s_aload_n dX5_partByWeights_133 rfl ?_
      refine s_getr dX5_partByWeights_134 fl_X5_27 kl_4 (by decide) rfl A (z := 4) rfl (rf_4_4 hG.1 A) (rk_4_4 A).1 ?_
      refine s_iload dX5_partByWeights_137 rfl ?_
      refine s_aaload4 dX5_partByWeights_139 (rk_4_4 A) (by omega) (by omega) (rw_4_4 hG.1 A (by omega) (by omega)) (rx_4_4 A (by omega) (by omega)).1 ?_
      refine s_iload_n dX5_partByWeights_140 rfl ?_
      refine s_dup2 dX5_partByWeights_141 rfl rfl ?_
      refine s_iaload dX5_partByWeights_142 (rx_4_4 A (by omega) (by omega)) (by omega) (by omega) ?_
      refine s_iconst dX5_partByWeights_143 ?_
      refine s_iadd dX5_partByWeights_144 ?_
      refine s_iastoreG dX5_partByWeights_145 (rx_4_4 A (by omega) (by omega)) (by omega) (by omega) hG (by first | exact hG.2 _ _ | exact b01_in _ | assumption | exact ⟨by omega, by omega⟩) (fun hG1 => ?_)
      refine s_aload_n dX5_partByWeights_146 rfl ?_
      refine s_getr dX5_partByWeights_147 fl_X5_39 kl_4 (by decide) rfl A (z := 17) rfl (rf_4_17 hG1.1 A) (rk_4_17 A).1 ?_
      refine s_iload dX5_partByWeights_150 rfl ?_
      refine s_lconstz (z := 0) dX5_partByWeights_152 rfl ?_
      refine s_lastoreG dX5_partByWeights_153 (rk_4_17 A) (by omega) (by omega) hG1 (by first | exact hG1.2 _ _ | exact hG.2 _ _ | exact b01_in _ | assumption | exact ⟨by omega, by omega⟩) (fun hG2 => ?_)
      refine s_iinc dX5_partByWeights_154 rfl (by decide) rfl (L' := [_, _, _, _, _, _, _, _, _]) rfl ?_
      refine s_goto (tgt := 120) dX5_partByWeights_157 (by decide) ?_
      refine s_fg (L' := [(2, r), (0, c), (0, m0), (1, all), (9, 0), (0, ov), (0, _), (9, 0), (9, 0)]) ⟨Or.inr rfl, Or.inr rfl, Or.inr rfl, Or.inr rfl, Or.inr rfl, Or.inr rfl, Or.inr rfl, Or.inl rfl, Or.inl rfl, trivial⟩ ?_
      refine ih (i + 1) _ hG2 (by omega) (by omega) ?_ ?_ ?_
      · intro x y hx
        simp (disch := omega) only [hs_same, hs_ne, fl_in, fl_ne, cp_inn, cp_nee]
        exact fr x y hx
      · intro g g0 gn
        rw [ev g g0 gn, lr_]
        simp only [ea]
        refine lr_congr _ _ _ _ _ (fun x x0 x1 => ?_) (fun x x0 x1 => ?_) g g0 (by omega)
        · by_cases e : x = a
          · subst e
            rw [if_pos rfl]
            simp (disch := omega) only [hs_same, hs_ne, fl_in, fl_ne, cp_inn, cp_nee]
          · rw [if_neg e]
            simp (disch := omega) only [hs_same, hs_ne, fl_in, fl_ne, cp_inn, cp_nee]
        · by_cases e : x = a
          · subst e
            rw [if_pos rfl]
            simp (disch := omega) only [hs_same, hs_ne, fl_in, fl_ne, cp_inn, cp_nee]
          · rw [if_neg e]
            simp (disch := omega) only [hs_same, hs_ne, fl_in, fl_ne, cp_inn, cp_nee]
      · intro g g0 gn
        have b1 := bd g g0 gn
        by_cases e : g = a
        · subst e
          simp (disch := omega) only [hs_same, hs_ne, fl_in, fl_ne, cp_inn, cp_nee]
          omega
        · simp (disch := omega) only [hs_same, hs_ne, fl_in, fl_ne, cp_inn, cp_nee]
          omega
set_option maxRecDepth 100000 in
set_option maxHeartbeats 4000000 in
theorem lp_X5_pbw2  {h0 : PH} (hd : 2 ≤ d) (A : isO nN r 4) (hw0 : h0 r 14 = w) (W : isO nN w 5) (g1 : 1 ≤ h0 w 7) (g9 : h0 w 7 ≤ 12) {c m0 all : Int} (cc0 : 0 ≤ c) (cc1 : c < 7) (n0 : 0 ≤ m0) (n9 : m0 ≤ 1000000) (a0 : 0 < all) (a9 : all ≤ 12000000) (hwt : ∀ g : Int, 0 ≤ g → g < h0 w 7 → 0 ≤ h0 (r + 44) g ∧ h0 (r + 44) g ≤ 1000000 ∧ h0 (r + 44) g ≤ all) (q : ∀ h' : PH, G h' → (∀ x y : Int, ¬ (x = r + 45 ∨ (r + 18 ≤ x ∧ x ≤ r + 29 ∧ y = c)) → h' x y = h0 x y) → (∀ g : Int, 0 ≤ g → g < h0 w 7 → h' (r + 17 + 1 + g) c = lr_ (h0 w 7 - 1).toNat (m0 - sumI (fun g => (h0 (r + 44) g * m0).tdiv all) 0 (h0 w 7).toNat).toNat (fun g => (h0 (r + 44) g * m0).tdiv all) (fun g => (h0 (r + 44) g * m0).tmod all) g) → Q.1 none nN h') : ∀ (m : Nat) (i ov : Int) (h : PH), (G h) → (0 ≤ i) → (i + m = h0 w 7) → (∀ x y : Int, ¬ (x = r + 45 ∨ (r + 18 ≤ x ∧ x ≤ r + 29 ∧ y = c)) → h x y = h0 x y) → (∀ g : Int, 0 ≤ g → g < i → h (r + 17 + 1 + g) c = (h0 (r + 44) g * m0).tdiv all ∧ h (r + 45) g = (h0 (r + 44) g * m0).tmod all) → (ov = m0 - sumI (fun g => (h0 (r + 44) g * m0).tdiv all) 0 i.toNat) → (ov ≤ 1000000 ∧ -(1000000 * i) ≤ ov) → S_ MX5_partByWeights d bc bs Q 47 [(2, r), (0, c), (0, m0), (1, all), (9, 0), (0, ov), (0, i), (9, 0), (9, 0)] [] nN h := by
  intro m
  induction m with
  | zero =>
    intro i ov h hG i0 i1 fr ev eo bo
    have hwv := io_of_5 W
    have hrv := io_of_4 A
    have hwr : w + 36 < r := by omega
    clear hwv hrv
    have hw : h r 14 = w := by rw [fr r 14 (by omega)]; exact hw0
    have en := fr w 7 (by omega)
    have ew := fr (r + 44) i (by omega)
    refine s_iload dX5_partByWeights_47 rfl ?_
    refine s_aload_n dX5_partByWeights_49 rfl ?_
    refine s_getr dX5_partByWeights_50 fl_X5_46 kl_4 (by decide) rfl A (z := 14) rfl (by first | exact hw | (simp (disch := omega) only [hs_same, hs_ne, fl_in, fl_ne, cp_inn, cp_nee]; exact hw)) (W).1 ?_
    refine s_geti dX5_partByWeights_53 fl_X5_63 kl_5 (by decide) rfl W (z := 7) rfl ?_
    refine s_icmp_ge (tgt := 117) dX5_partByWeights_56 (by decide) (by first | exact hG.2 _ _ | exact b01_in _ | assumption | exact ⟨by omega, by omega⟩) (by first | exact hG.2 _ _ | exact b01_in _ | assumption | exact ⟨by omega, by omega⟩) (fun c1 => ?_) (fun c1 => ?_)
    · refine s_iconst dX5_partByWeights_117 ?_
      refine s_istore dX5_partByWeights_118 (by decide) rfl (L' := [_, _, _, _, _, _, _, _, _]) rfl ?_
      have ei : i = h0 w 7 := by omega
      subst ei
      rw [eo]
      refine lp_X5_pbw3 hd A hw0 W g1 g9 cc0 cc1 (by omega) (by omega) (fun g => lr_ (h0 w 7 - 1).toNat (m0 - sumI (fun g => (h0 (r + 44) g * m0).tdiv all) 0 (h0 w 7).toNat).toNat (fun g => (h0 (r + 44) g * m0).tdiv all) (fun g => (h0 (r + 44) g * m0).tmod all) g) q _ 0 h hG (by omega) rfl fr (fun g g0 gn => ?_) (fun g g0 gn => ?_)
      · show lr_ (h0 w 7 - 1).toNat (m0 - sumI (fun g => (h0 (r + 44) g * m0).tdiv all) 0 (h0 w 7).toNat).toNat (fun g => (h0 (r + 44) g * m0).tdiv all) (fun g => (h0 (r + 44) g * m0).tmod all) g = _
        rw [Int.sub_zero]
        exact lr_congr _ _ _ _ _ (fun x x0 x1 => (ev x x0 (by omega)).1.symm) (fun x x0 x1 => (ev x x0 (by omega)).2.symm) g g0 (by omega)
      · rw [(ev g g0 gn).1]
        have hb := hwt g g0 gn
        have := gb_ hb.1 hb.2.2 n0 a0
        omega
    · exact absurd c1 (by omega)
  | succ m ih =>
    intro i ov h hG i0 i1 fr ev eo bo
    have hwv := io_of_5 W
    have hrv := io_of_4 A
    have hwr : w + 36 < r := by omega
    clear hwv hrv
    have hw : h r 14 = w := by rw [fr r 14 (by omega)]; exact hw0
    have en := fr w 7 (by omega)
    have ew := fr (r + 44) i (by omega)
    have hb := hwt i (by omega) (by omega)
    have hx := xm_ hb.1 hb.2.1 n0 n9
    have hgb := gb_ hb.1 hb.2.2 n0 a0
    have hrb := rb_ hb.1 n0 a0
    refine s_iload dX5_partByWeights_47 rfl ?_
    refine s_aload_n dX5_partByWeights_49 rfl ?_
    refine s_getr dX5_partByWeights_50 fl_X5_46 kl_4 (by decide) rfl A (z := 14) rfl (by first | exact hw | (simp (disch := omega) only [hs_same, hs_ne, fl_in, fl_ne, cp_inn, cp_nee]; exact hw)) (W).1 ?_
    refine s_geti dX5_partByWeights_53 fl_X5_63 kl_5 (by decide) rfl W (z := 7) rfl ?_
    refine s_icmp_ge (tgt := 117) dX5_partByWeights_56 (by decide) (by first | exact hG.2 _ _ | exact b01_in _ | assumption | exact ⟨by omega, by omega⟩) (by first | exact hG.2 _ _ | exact b01_in _ | assumption | exact ⟨by omega, by omega⟩) (fun c1 => ?_) (fun c1 => ?_)
    · exact absurd c1 (by omega)
    · refine s_aload_n dX5_partByWeights_59 rfl ?_
      refine s_getr dX5_partByWeights_60 fl_X5_36 kl_4 (by decide) rfl A (z := 16) rfl (rf_4_16 hG.1 A) (rk_4_16 A).1 ?_
      refine s_iload dX5_partByWeights_63 rfl ?_
      refine s_iaload dX5_partByWeights_65 (rk_4_16 A) (by omega) (by omega) ?_
      try simp (disch := omega) only [hs_same, hs_ne, fl_in, fl_ne, cp_inn, cp_nee]
      rw [ew]
      refine s_i2l dX5_partByWeights_66 (by first | exact hG.2 _ _ | exact b01_in _ | assumption | exact ⟨by omega, by omega⟩) ?_
      refine s_iload_n dX5_partByWeights_67 rfl ?_
      refine s_i2l dX5_partByWeights_68 (by first | exact hG.2 _ _ | exact b01_in _ | assumption | exact ⟨by omega, by omega⟩) ?_
      refine s_lmul dX5_partByWeights_69 ?_
      refine s_lstore dX5_partByWeights_70 (by decide) rfl (L' := [_, _, _, _, _, _, _, _, _]) rfl ?_
      refine s_aload_n dX5_partByWeights_72 rfl ?_
      refine s_getr dX5_partByWeights_73 fl_X5_27 kl_4 (by decide) rfl A (z := 4) rfl (rf_4_4 hG.1 A) (rk_4_4 A).1 ?_
      refine s_iload dX5_partByWeights_76 rfl ?_
      refine s_aaload4 dX5_partByWeights_78 (rk_4_4 A) (by omega) (by omega) (rw_4_4 hG.1 A (by omega) (by omega)) (rx_4_4 A (by omega) (by omega)).1 ?_
      refine s_iload_n dX5_partByWeights_79 rfl ?_
      refine s_lload dX5_partByWeights_80 rfl ?_
      refine s_lload_n dX5_partByWeights_82 rfl ?_
      refine s_ldiv dX5_partByWeights_83 (by first | exact inI_L (by first | exact hG.2 _ _ | exact b01_in _ | assumption | exact ⟨by omega, by omega⟩) | exact ⟨by omega, by omega⟩) (by first | exact inI_L (by first | exact hG.2 _ _ | exact b01_in _ | assumption | exact ⟨by omega, by omega⟩) | exact ⟨by omega, by omega⟩) (by omega) (by omega) ?_
      refine s_l2i dX5_partByWeights_84 ?_
      refine s_iastoreG dX5_partByWeights_85 (rx_4_4 A (by omega) (by omega)) (by omega) (by omega) hG (by first | exact hG.2 _ _ | exact b01_in _ | assumption | exact ⟨by omega, by omega⟩) (fun hG1 => ?_)
      refine s_aload_n dX5_partByWeights_86 rfl ?_
      refine s_getr dX5_partByWeights_87 fl_X5_39 kl_4 (by decide) rfl A (z := 17) rfl (rf_4_17 hG1.1 A) (rk_4_17 A).1 ?_
      refine s_iload dX5_partByWeights_90 rfl ?_
      refine s_lload dX5_partByWeights_92 rfl ?_
      refine s_lload_n dX5_partByWeights_94 rfl ?_
      refine s_lrem dX5_partByWeights_95 (by first | exact inI_L (by first | exact hG1.2 _ _ | exact hG.2 _ _ | exact b01_in _ | assumption | exact ⟨by omega, by omega⟩) | exact ⟨by omega, by omega⟩) (by first | exact inI_L (by first | exact hG1.2 _ _ | exact hG.2 _ _ | exact b01_in _ | assumption | exact ⟨by omega, by omega⟩) | exact ⟨by omega, by omega⟩) (by omega) (by omega) ?_
      refine s_lastoreG dX5_partByWeights_96 (rk_4_17 A) (by omega) (by omega) hG1 (by first | exact hG1.2 _ _ | exact hG.2 _ _ | exact b01_in _ | assumption | exact ⟨by omega, by omega⟩) (fun hG2 => ?_)
      refine s_iload dX5_partByWeights_97 rfl ?_
      refine s_aload_n dX5_partByWeights_99 rfl ?_
      refine s_getr dX5_partByWeights_100 fl_X5_27 kl_4 (by decide) rfl A (z := 4) rfl (rf_4_4 hG2.1 A) (rk_4_4 A).1 ?_
      refine s_iload dX5_partByWeights_103 rfl ?_
      refine s_aaload4 dX5_partByWeights_105 (rk_4_4 A) (by omega) (by omega) (rw_4_4 hG2.1 A (by omega) (by omega)) (rx_4_4 A (by omega) (by omega)).1 ?_
      refine s_iload_n dX5_partByWeights_106 rfl ?_
      refine s_iaload dX5_partByWeights_107 (rx_4_4 A (by omega) (by omega)) (by omega) (by omega) ?_
      try simp (disch := omega) only [hs_same, hs_ne, fl_in, fl_ne, cp_inn, cp_nee]
      try simp (disch := omega) only [hs_same, hs_ne, fl_in, fl_ne, cp_inn, cp_nee]
      refine s_isub dX5_partByWeights_108 ?_
      refine s_istore dX5_partByWeights_109 (by decide) rfl (L' := [_, _, _, _, _, _, _, _, _]) rfl ?_
      refine s_iinc dX5_partByWeights_111 rfl (by decide) rfl (L' := [_, _, _, _, _, _, _, _, _]) rfl ?_
      refine s_goto (tgt := 47) dX5_partByWeights_114 (by decide) ?_
      refine s_fg (L' := [(2, r), (0, c), (0, m0), (1, all), (9, 0), (0, _), (0, _), (9, 0), (9, 0)]) ⟨Or.inr rfl, Or.inr rfl, Or.inr rfl, Or.inr rfl, Or.inr rfl, Or.inr rfl, Or.inr rfl, Or.inl rfl, Or.inl rfl, trivial⟩ ?_
      refine ih (i + 1) _ _ hG2 (by omega) (by omega) ?_ ?_ ?_ (by omega)
      · intro x y hx
        simp (disch := omega) only [hs_same, hs_ne, fl_in, fl_ne, cp_inn, cp_nee]
        exact fr x y hx
      · intro g g0 gn
        by_cases e : g = i
        · subst e
          simp (disch := omega) only [hs_same, hs_ne, fl_in, fl_ne, cp_inn, cp_nee]
          exact ⟨trivial, trivial⟩
        · simp (disch := omega) only [hs_same, hs_ne, fl_in, fl_ne, cp_inn, cp_nee]
          exact ev g g0 (by omega)
      · rw [sumI_up _ i0, eo]
        omega
set_option maxRecDepth 100000 in
set_option maxHeartbeats 4000000 in
theorem lp_X5_pbw1  {h0 : PH} (hd : 2 ≤ d) (A : isO nN r 4) (hw0 : h0 r 14 = w) (W : isO nN w 5) (g0 : 0 ≤ h0 w 7) (g9 : h0 w 7 ≤ 12) {c m0 : Int} (cc0 : 0 ≤ c) (cc1 : c < 7) (n0 : 0 ≤ m0) (n9 : m0 ≤ 1000000) (hwt : ∀ g : Int, 0 ≤ g → g < h0 w 7 → 0 ≤ h0 (r + 44) g ∧ h0 (r + 44) g ≤ 1000000) (hG : G h0) (q0 : sumI (h0 (r + 44)) 0 (h0 w 7).toNat = 0 → Q.1 none nN h0) (q : ¬ sumI (h0 (r + 44)) 0 (h0 w 7).toNat = 0 → ∀ h' : PH, G h' → (∀ x y : Int, ¬ (x = r + 45 ∨ (r + 18 ≤ x ∧ x ≤ r + 29 ∧ y = c)) → h' x y = h0 x y) → (∀ g : Int, 0 ≤ g → g < h0 w 7 → h' (r + 17 + 1 + g) c = lr_ (h0 w 7 - 1).toNat (m0 - sumI (fun g => (h0 (r + 44) g * m0).tdiv (sumI (h0 (r + 44)) 0 (h0 w 7).toNat)) 0 (h0 w 7).toNat).toNat (fun g => (h0 (r + 44) g * m0).tdiv (sumI (h0 (r + 44)) 0 (h0 w 7).toNat)) (fun g => (h0 (r + 44) g * m0).tmod (sumI (h0 (r + 44)) 0 (h0 w 7).toNat)) g) → Q.1 none nN h') : ∀ (m : Nat) (i acc : Int), (0 ≤ i) → (i + m = h0 w 7) → (acc = sumI (h0 (r + 44)) 0 i.toNat) → (0 ≤ acc ∧ acc ≤ 1000000 * i) → S_ MX5_partByWeights d bc bs Q 5 [(2, r), (0, c), (0, m0), (1, acc), (9, 0), (0, i), (9, 0), (9, 0), (9, 0)] [] nN h0 := by
  intro m
  induction m with
  | zero =>
    intro i acc i0 i1 ea ba
    have hw := hw0
    refine s_iload dX5_partByWeights_5 rfl ?_
    refine s_aload_n dX5_partByWeights_7 rfl ?_
    refine s_getr dX5_partByWeights_8 fl_X5_46 kl_4 (by decide) rfl A (z := 14) rfl (by first | exact hw | (simp (disch := omega) only [hs_same, hs_ne, fl_in, fl_ne, cp_inn, cp_nee]; exact hw)) (W).1 ?_
    refine s_geti dX5_partByWeights_11 fl_X5_63 kl_5 (by decide) rfl W (z := 7) rfl ?_
    refine s_icmp_ge (tgt := 34) dX5_partByWeights_14 (by decide) (by first | exact hG.2 _ _ | exact b01_in _ | assumption | exact ⟨by omega, by omega⟩) (by first | exact hG.2 _ _ | exact b01_in _ | assumption | exact ⟨by omega, by omega⟩) (fun c1 => ?_) (fun c1 => ?_)
    · refine s_lload_n dX5_partByWeights_34 rfl ?_
      refine s_lconstz (z := 0) dX5_partByWeights_35 rfl ?_
      refine s_lcmp_ne (tgt := 41) dX5_partByWeights_36 dX5_partByWeights_37 (by decide) (by first | exact inI_L (by first | exact hG.2 _ _ | exact b01_in _ | assumption | exact ⟨by omega, by omega⟩) | exact ⟨by omega, by omega⟩) (by first | exact inI_L (by first | exact hG.2 _ _ | exact b01_in _ | assumption | exact ⟨by omega, by omega⟩) | exact ⟨by omega, by omega⟩) (fun c2 => ?_) (fun c2 => ?_)
      · refine s_iload_n dX5_partByWeights_41 rfl ?_
        refine s_istore dX5_partByWeights_42 (by decide) rfl (L' := [_, _, _, _, _, _, _, _, _]) rfl ?_
        refine s_iconst dX5_partByWeights_44 ?_
        refine s_istore dX5_partByWeights_45 (by decide) rfl (L' := [_, _, _, _, _, _, _, _, _]) rfl ?_
        have ei : i = h0 w 7 := by omega
        subst ei
        have hge := sumI_ge (f := h0 (r + 44)) (h0 w 7).toNat 0 (fun g g0 g1 => (hwt g g0 (by omega)).1)
        have hn1 : 1 ≤ h0 w 7 := by
          rcases (by omega : h0 w 7 = 0 ∨ 1 ≤ h0 w 7) with z | z
          · exact absurd (by rw [ea, z]; rfl) c2
          · exact z
        rw [ea]
        refine lp_X5_pbw2 hd A hw0 W hn1 g9 cc0 cc1 n0 n9 (by omega) (by omega) (fun g g0 g1 => ⟨(hwt g g0 g1).1, (hwt g g0 g1).2, hge g (by omega) (by omega)⟩) (q (by omega)) (h0 w 7).toNat 0 _ h0 hG (by omega) (by omega) (fun _ _ _ => rfl) (fun g g0 g1 => by omega) (by simp [sumI]) (by omega)
      · exact s_return dX5_partByWeights_40 rfl (q0 (by rw [show h0 w 7 = i by omega, ← ea]; exact c2))
    · exact absurd c1 (by omega)
  | succ m ih =>
    intro i acc i0 i1 ea ba
    have hw := hw0
    have hb := hwt i (by omega) (by omega)
    refine s_iload dX5_partByWeights_5 rfl ?_
    refine s_aload_n dX5_partByWeights_7 rfl ?_
    refine s_getr dX5_partByWeights_8 fl_X5_46 kl_4 (by decide) rfl A (z := 14) rfl (by first | exact hw | (simp (disch := omega) only [hs_same, hs_ne, fl_in, fl_ne, cp_inn, cp_nee]; exact hw)) (W).1 ?_
    refine s_geti dX5_partByWeights_11 fl_X5_63 kl_5 (by decide) rfl W (z := 7) rfl ?_
    refine s_icmp_ge (tgt := 34) dX5_partByWeights_14 (by decide) (by first | exact hG.2 _ _ | exact b01_in _ | assumption | exact ⟨by omega, by omega⟩) (by first | exact hG.2 _ _ | exact b01_in _ | assumption | exact ⟨by omega, by omega⟩) (fun c1 => ?_) (fun c1 => ?_)
    · exact absurd c1 (by omega)
    · refine s_lload_n dX5_partByWeights_17 rfl ?_
      refine s_aload_n dX5_partByWeights_18 rfl ?_
      refine s_getr dX5_partByWeights_19 fl_X5_36 kl_4 (by decide) rfl A (z := 16) rfl (rf_4_16 hG.1 A) (rk_4_16 A).1 ?_
      refine s_iload dX5_partByWeights_22 rfl ?_
      refine s_iaload dX5_partByWeights_24 (rk_4_16 A) (by omega) (by omega) ?_
      refine s_i2l dX5_partByWeights_25 (by first | exact hG.2 _ _ | exact b01_in _ | assumption | exact ⟨by omega, by omega⟩) ?_
      refine s_ladd dX5_partByWeights_26 ?_
      refine s_lstore_n dX5_partByWeights_27 (by decide) rfl (L' := [_, _, _, _, _, _, _, _, _]) rfl ?_
      refine s_iinc dX5_partByWeights_28 rfl (by decide) rfl (L' := [_, _, _, _, _, _, _, _, _]) rfl ?_
      refine s_goto (tgt := 5) dX5_partByWeights_31 (by decide) ?_
      exact ih (i + 1) _ (by omega) (by omega) (by rw [sumI_up _ i0, ea]) (by omega)
set_option maxRecDepth 100000 in
set_option maxHeartbeats 4000000 in
theorem c_X5_partByWeights  {h0 : PH} (hd : 2 ≤ d) (A : isO nN r 4) (hw0 : h0 r 14 = w) (W : isO nN w 5) (g0 : 0 ≤ h0 w 7) (g9 : h0 w 7 ≤ 12) {c m0 : Int} (cc0 : 0 ≤ c) (cc1 : c < 7) (n0 : 0 ≤ m0) (n9 : m0 ≤ 1000000) (hwt : ∀ g : Int, 0 ≤ g → g < h0 w 7 → 0 ≤ h0 (r + 44) g ∧ h0 (r + 44) g ≤ 1000000) (hG : G h0) (q0 : sumI (h0 (r + 44)) 0 (h0 w 7).toNat = 0 → Q.1 none nN h0) (q : ¬ sumI (h0 (r + 44)) 0 (h0 w 7).toNat = 0 → ∀ h' : PH, G h' → (∀ x y : Int, ¬ (x = r + 45 ∨ (r + 18 ≤ x ∧ x ≤ r + 29 ∧ y = c)) → h' x y = h0 x y) → (∀ g : Int, 0 ≤ g → g < h0 w 7 → h' (r + 17 + 1 + g) c = lr_ (h0 w 7 - 1).toNat (m0 - sumI (fun g => (h0 (r + 44) g * m0).tdiv (sumI (h0 (r + 44)) 0 (h0 w 7).toNat)) 0 (h0 w 7).toNat).toNat (fun g => (h0 (r + 44) g * m0).tdiv (sumI (h0 (r + 44)) 0 (h0 w 7).toNat)) (fun g => (h0 (r + 44) g * m0).tmod (sumI (h0 (r + 44)) 0 (h0 w 7).toNat)) g) → Q.1 none nN h')  : Cl_ yX5_partByWeights MX5_partByWeights d bc bs [(2, r), (0, c), (0, m0)] nN h0 Q := by
  refine s_enter pn_X5 rfl (Nat.le_of_ble_eq_true rfl) (L := [(2, _), (0, _), (0, _), (9, 0), (9, 0), (9, 0), (9, 0), (9, 0), (9, 0)]) rfl ?_
  refine s_lconstz (z := 0) dX5_partByWeights_0 rfl ?_
  refine s_lstore_n dX5_partByWeights_1 (by decide) rfl (L' := [_, _, _, _, _, _, _, _, _]) rfl ?_
  refine s_iconst dX5_partByWeights_2 ?_
  refine s_istore dX5_partByWeights_3 (by decide) rfl (L' := [_, _, _, _, _, _, _, _, _]) rfl ?_
  exact lp_X5_pbw1 hd A hw0 W g0 g9 cc0 cc1 n0 n9 hwt hG q0 q (h0 w 7).toNat 0 0 (by omega) (by omega) (by simp [sumI]) (by omega)
end X5E
