/-! WillHouse$Reckoning: all gifts passed on; what is intestate; who lives in a stock -/
section X5K
variable {d bc bs : Nat} {Q : PQ} {h : PH} {r w f : Int}
set_option maxRecDepth 100000 in
set_option maxHeartbeats 4000000 in
theorem lp_X5_pg2  {h1 : PH} (hd : 5 ≤ d) (A : isO nN r 4) (hw1 : h1 r 14 = w) (W : isO nN w 5) (hf1 : h1 r 15 = f) (F : isO nN f 1) (hfr : f + 1 < r) (p0 : 0 ≤ h1 (w + 14) 1) (p9 : h1 (w + 14) 1 ≤ 12) {g : Int} (q0 : 0 ≤ g) (q1 : g < 12) (x0 : 0 ≤ h1 (w + 33) g) (x1 : h1 (w + 33) g < h1 (w + 14) 1) (gb : ∀ c : Int, 0 ≤ c → c < 7 → h1 (r + 17 + 1 + g) c ≤ 1000000) (kx : ∀ h' : PH, G h' → (∀ z y : Int, ¬ (z = r + 46 ∨ (z = r + 30 + 1 + g ∧ 0 ≤ y ∧ y < h1 (w + 14) 1)) → h' z y = h1 z y) → (∀ p : Int, 0 ≤ p → p < h1 (w + 14) 1 → h' (r + 30 + 1 + g) p = tg_ (h1 (w + 14) 1) (h1 (w + 29)) (fun y => h1 (f + 1) (32 + y)) (h1 (r + 1)) (h1 (r + 17 + 1 + g)) (h1 (w + 33) g) p ∧ 0 ≤ h' (r + 30 + 1 + g) p ∧ h' (r + 30 + 1 + g) p ≤ 7000000) → S_ MX5_passGifts d bc bs Q 65 [(2, r), (0, g), (0, 7)] [] nN h') : ∀ (m : Nat) (i : Int) (h : PH), (G h) → (0 ≤ i) → (i + m = 7) → (∀ z y : Int, ¬ (z = r + 46 ∨ (z = r + 30 + 1 + g ∧ 0 ≤ y ∧ y < h1 (w + 14) 1)) → h z y = h1 z y) → (∀ p : Int, 0 ≤ p → p < h1 (w + 14) 1 → h (r + 30 + 1 + g) p = sumI (fun c => if 0 < h1 (r + 17 + 1 + g) c then pv_ (h1 (w + 14) 1) (h1 (w + 29)) (fun y => h1 (f + 1) (32 + y)) (h1 (r + 1)) (h1 (r + 17 + 1 + g) c) (h1 (w + 33) g) p else 0) 0 i.toNat) → (∀ p : Int, 0 ≤ p → p < h1 (w + 14) 1 → 0 ≤ h (r + 30 + 1 + g) p ∧ h (r + 30 + 1 + g) p ≤ 1000000 * i) → S_ MX5_passGifts d bc bs Q 15 [(2, r), (0, g), (0, i)] [] nN h := by
  intro m
  induction m with
  | zero =>
    intro i h hG i0 i1 fr tk bd
    have hwv := io_of_5 W
    have hrv := io_of_4 A
    have hwr : w + 36 < r := by omega
    clear hwv hrv
    have hw : h r 14 = w := by rw [fr r 14 (by omega)]; exact hw1
    have hf : h r 15 = f := by rw [fr r 15 (by omega)]; exact hf1
    have en := fr (w + 14) 1 (by omega)
    have elv : h (r + 1) = h1 (r + 1) := funext fun y => fr _ _ (by omega)
    have epa : h (w + 29) = h1 (w + 29) := funext fun y => fr _ _ (by omega)
    have edd : (fun y : Int => h (f + 1) (32 + y)) = (fun y => h1 (f + 1) (32 + y)) := funext fun y => fr _ _ (by omega)
    have egc := fr (r + 17 + 1 + g) i (by omega)
    refine s_iload_n dX5_passGifts_15 rfl ?_
    refine s_bipush dX5_passGifts_16 (by decide) ?_
    refine s_icmp_ge (tgt := 65) dX5_passGifts_18 (by decide) (by first | exact hG.2 _ _ | exact b01_in _ | assumption | exact ⟨by omega, by omega⟩) (by first | exact hG.2 _ _ | exact b01_in _ | assumption | exact ⟨by omega, by omega⟩) (fun c1 => ?_) (fun c1 => ?_)
    · have e7 : i = 7 := by omega
      subst e7
      refine kx h hG fr (fun p a b => ?_)
      have := bd p a b
      exact ⟨tk p a b, by omega, by omega⟩
    · exact absurd c1 (by omega)
  | succ m ih =>
    intro i h hG i0 i1 fr tk bd
    have hwv := io_of_5 W
    have hrv := io_of_4 A
    have hwr : w + 36 < r := by omega
    clear hwv hrv
    have hw : h r 14 = w := by rw [fr r 14 (by omega)]; exact hw1
    have hf : h r 15 = f := by rw [fr r 15 (by omega)]; exact hf1
    have hgb := gb i (by omega) (by omega)
    have en := fr (w + 14) 1 (by omega)
    have elv : h (r + 1) = h1 (r + 1) := funext fun y => fr _ _ (by omega)
    have epa : h (w + 29) = h1 (w + 29) := funext fun y => fr _ _ (by omega)
    have edd : (fun y : Int => h (f + 1) (32 + y)) = (fun y => h1 (f + 1) (32 + y)) := funext fun y => fr _ _ (by omega)
    have egc := fr (r + 17 + 1 + g) i (by omega)
    refine s_iload_n dX5_passGifts_15 rfl ?_
    refine s_bipush dX5_passGifts_16 (by decide) ?_
    refine s_icmp_ge (tgt := 65) dX5_passGifts_18 (by decide) (by first | exact hG.2 _ _ | exact b01_in _ | assumption | exact ⟨by omega, by omega⟩) (by first | exact hG.2 _ _ | exact b01_in _ | assumption | exact ⟨by omega, by omega⟩) (fun c1 => ?_) (fun c1 => ?_)
    · exact absurd c1 (by omega)
    · refine s_aload_n dX5_passGifts_21 rfl ?_
      refine s_getr dX5_passGifts_22 fl_X5_27 kl_4 (by decide) rfl A (z := 4) rfl (rf_4_4 hG.1 A) (rk_4_4 A).1 ?_
      refine s_iload_n dX5_passGifts_25 rfl ?_
      refine s_aaload4 dX5_passGifts_26 (rk_4_4 A) (by omega) (by omega) (rw_4_4 hG.1 A (by omega) (by omega)) (rx_4_4 A (by omega) (by omega)).1 ?_
      refine s_iload_n dX5_passGifts_27 rfl ?_
      refine s_iaload dX5_passGifts_28 (rx_4_4 A (by omega) (by omega)) (by omega) (by omega) ?_
      refine s_if_le (tgt := 59) dX5_passGifts_29 (by decide) (by first | exact hG.2 _ _ | exact b01_in _ | assumption | exact ⟨by omega, by omega⟩) (fun c2 => ?_) (fun c2 => ?_)
      · refine s_iinc dX5_passGifts_59 rfl (by decide) rfl (L' := [_, _, _]) rfl ?_
        refine s_goto (tgt := 15) dX5_passGifts_62 (by decide) ?_
        refine ih (i + 1) _ hG (by omega) (by omega) fr ?_ ?_
        · intro p a b
          rw [sumI_up _ i0, ← tk p a b, if_neg (by omega), Int.add_zero]
        · intro p a b
          have := bd p a b
          omega
      · refine s_aload_n dX5_passGifts_32 rfl ?_
        refine s_aload_n dX5_passGifts_33 rfl ?_
        refine s_getr dX5_passGifts_34 fl_X5_27 kl_4 (by decide) rfl A (z := 4) rfl (rf_4_4 hG.1 A) (rk_4_4 A).1 ?_
        refine s_iload_n dX5_passGifts_37 rfl ?_
        refine s_aaload4 dX5_passGifts_38 (rk_4_4 A) (by omega) (by omega) (rw_4_4 hG.1 A (by omega) (by omega)) (rx_4_4 A (by omega) (by omega)).1 ?_
        refine s_iload_n dX5_passGifts_39 rfl ?_
        refine s_iaload dX5_passGifts_40 (rx_4_4 A (by omega) (by omega)) (by omega) (by omega) ?_
        refine s_aload_n dX5_passGifts_41 rfl ?_
        refine s_getr dX5_passGifts_42 fl_X5_46 kl_4 (by decide) rfl A (z := 14) rfl (by first | exact hw | (simp (disch := omega) only [hs_same, hs_ne, fl_in, fl_ne, cp_inn, cp_nee]; exact hw)) (W).1 ?_
        refine s_getr dX5_passGifts_45 fl_X5_130 kl_5 (by decide) rfl W (z := 9) rfl (rf_5_9 hG.1 W) (rk_5_9 W).1 ?_
        refine s_iload_n dX5_passGifts_48 rfl ?_
        refine s_iaload dX5_passGifts_49 (rk_5_9 W) (by omega) (by omega) ?_
        refine s_aload_n dX5_passGifts_50 rfl ?_
        refine s_getr dX5_passGifts_51 fl_X5_30 kl_4 (by decide) rfl A (z := 5) rfl (rf_4_5 hG.1 A) (rk_4_5 A).1 ?_
        refine s_iload_n dX5_passGifts_54 rfl ?_
        refine s_aaload4 dX5_passGifts_55 (rk_4_5 A) (by omega) (by omega) (rw_4_5 hG.1 A (by omega) (by omega)) (rx_4_5 A (by omega) (by omega)).1 ?_
        refine s_callV (d' := d - 1) (bc' := 0) (bs' := 0) (as := [_, _, _]) dX5_passGifts_56 vf_X5_211 (dd_ (by omega) (by decide)) ⟨Nat.zero_le _, Nat.zero_le _⟩ rfl rfl (Nat.le_of_ble_eq_true rfl) kl_4 rfl A ?_
        have ex := fr (w + 33) g (by omega)
        refine c_X5_passOn (by omega) A hw W hf F hfr (by omega) (by omega) (rx_4_5 A (by omega) (by omega)) (by omega) (by omega) (by omega) (by omega) (by omega) (by omega) (fun p a b => by have := bd p a (by omega); omega) (fun h2 hG1 fr2 ev2 => ?_) hG
        rw [en, epa, edd, elv, ex, egc] at ev2
        rw [en] at fr2
        refine s_iinc dX5_passGifts_59 rfl (by decide) rfl (L' := [_, _, _]) rfl ?_
        refine s_goto (tgt := 15) dX5_passGifts_62 (by decide) ?_
        refine ih (i + 1) _ hG1 (by omega) (by omega) ?_ ?_ ?_
        · intro z y hx
          rw [fr2 z y (by omega)]
          exact fr z y hx
        · intro p a b
          rw [sumI_up _ i0, ← tk p a b, if_pos (by omega)]
          exact ev2 p a b
        · intro p a b
          rw [ev2 p a b]
          have := bd p a b
          have := pv_bd (n := h1 (w + 14) 1) (pa := h1 (w + 29)) (dd := fun y => h1 (f + 1) (32 + y)) (lv := h1 (r + 1)) (m := h1 (r + 17 + 1 + g) i) (x := h1 (w + 33) g) (by omega) x0 x1 p a b
          omega
set_option maxRecDepth 100000 in
set_option maxHeartbeats 4000000 in
theorem lp_X5_pg1  {h0 : PH} (hd : 5 ≤ d) (A : isO nN r 4) (hw0 : h0 r 14 = w) (W : isO nN w 5) (hf0 : h0 r 15 = f) (F : isO nN f 1) (hfr : f + 1 < r) (p0 : 0 ≤ h0 (w + 14) 1) (p9 : h0 (w + 14) 1 ≤ 12) (g0 : 0 ≤ h0 w 7) (g9 : h0 w 7 ≤ 12) (hx : ∀ g : Int, 0 ≤ g → g < h0 w 7 → 0 ≤ h0 (w + 33) g ∧ h0 (w + 33) g < h0 (w + 14) 1) (gb : ∀ g c : Int, 0 ≤ g → g < h0 w 7 → 0 ≤ c → c < 7 → h0 (r + 17 + 1 + g) c ≤ 1000000) (hz : ∀ g p : Int, 0 ≤ g → g < 12 → 0 ≤ p → p < 12 → h0 (r + 30 + 1 + g) p = 0) (q : ∀ h' : PH, G h' → (∀ z y : Int, ¬ (z = r + 46 ∨ (r + 31 ≤ z ∧ z ≤ r + 42 ∧ 0 ≤ y ∧ y < h0 (w + 14) 1)) → h' z y = h0 z y) → (∀ g p : Int, 0 ≤ g → g < h0 w 7 → 0 ≤ p → p < h0 (w + 14) 1 → h' (r + 30 + 1 + g) p = tg_ (h0 (w + 14) 1) (h0 (w + 29)) (fun y => h0 (f + 1) (32 + y)) (h0 (r + 1)) (h0 (r + 17 + 1 + g)) (h0 (w + 33) g) p ∧ 0 ≤ h' (r + 30 + 1 + g) p ∧ h' (r + 30 + 1 + g) p ≤ 7000000) → Q.1 none nN h') : ∀ (m : Nat) (i : Int) (h : PH), (G h) → (0 ≤ i) → (i + m = h0 w 7) → (∀ z y : Int, ¬ (z = r + 46 ∨ (r + 31 ≤ z ∧ z ≤ r + 42 ∧ 0 ≤ y ∧ y < h0 (w + 14) 1)) → h z y = h0 z y) → (∀ g p : Int, 0 ≤ g → g < i → 0 ≤ p → p < h0 (w + 14) 1 → h (r + 30 + 1 + g) p = tg_ (h0 (w + 14) 1) (h0 (w + 29)) (fun y => h0 (f + 1) (32 + y)) (h0 (r + 1)) (h0 (r + 17 + 1 + g)) (h0 (w + 33) g) p ∧ 0 ≤ h (r + 30 + 1 + g) p ∧ h (r + 30 + 1 + g) p ≤ 7000000) → (∀ g p : Int, i ≤ g → g < 12 → 0 ≤ p → p < 12 → h (r + 30 + 1 + g) p = 0) → S_ MX5_passGifts d bc bs Q 2 [(2, r), (0, i), (9, 0)] [] nN h := by
  intro m
  induction m with
  | zero =>
    intro i h hG i0 i1 fr tk un
    have hwv := io_of_5 W
    have hrv := io_of_4 A
    have hwr : w + 36 < r := by omega
    clear hwv hrv
    have hw : h r 14 = w := by rw [fr r 14 (by omega)]; exact hw0
    have hf : h r 15 = f := by rw [fr r 15 (by omega)]; exact hf0
    have en := fr (w + 14) 1 (by omega)
    have elv : h (r + 1) = h0 (r + 1) := funext fun y => fr _ _ (by omega)
    have epa : h (w + 29) = h0 (w + 29) := funext fun y => fr _ _ (by omega)
    have edd : (fun y : Int => h (f + 1) (32 + y)) = (fun y => h0 (f + 1) (32 + y)) := funext fun y => fr _ _ (by omega)
    have eg := fr w 7 (by omega)
    refine s_iload_n dX5_passGifts_2 rfl ?_
    refine s_aload_n dX5_passGifts_3 rfl ?_
    refine s_getr dX5_passGifts_4 fl_X5_46 kl_4 (by decide) rfl A (z := 14) rfl (by first | exact hw | (simp (disch := omega) only [hs_same, hs_ne, fl_in, fl_ne, cp_inn, cp_nee]; exact hw)) (W).1 ?_
    refine s_geti dX5_passGifts_7 fl_X5_63 kl_5 (by decide) rfl W (z := 7) rfl ?_
    refine s_icmp_ge (tgt := 71) dX5_passGifts_10 (by decide) (by first | exact hG.2 _ _ | exact b01_in _ | assumption | exact ⟨by omega, by omega⟩) (by first | exact hG.2 _ _ | exact b01_in _ | assumption | exact ⟨by omega, by omega⟩) (fun c1 => ?_) (fun c1 => ?_)
    · exact s_return dX5_passGifts_71 rfl (q h hG fr (fun g p a b a2 b2 => tk g p a (by omega) a2 b2))
    · exact absurd c1 (by omega)
  | succ m ih =>
    intro i h hG i0 i1 fr tk un
    have hwv := io_of_5 W
    have hrv := io_of_4 A
    have hwr : w + 36 < r := by omega
    clear hwv hrv
    have hw : h r 14 = w := by rw [fr r 14 (by omega)]; exact hw0
    have hf : h r 15 = f := by rw [fr r 15 (by omega)]; exact hf0
    have en := fr (w + 14) 1 (by omega)
    have elv : h (r + 1) = h0 (r + 1) := funext fun y => fr _ _ (by omega)
    have epa : h (w + 29) = h0 (w + 29) := funext fun y => fr _ _ (by omega)
    have edd : (fun y : Int => h (f + 1) (32 + y)) = (fun y => h0 (f + 1) (32 + y)) := funext fun y => fr _ _ (by omega)
    have eg := fr w 7 (by omega)
    refine s_iload_n dX5_passGifts_2 rfl ?_
    refine s_aload_n dX5_passGifts_3 rfl ?_
    refine s_getr dX5_passGifts_4 fl_X5_46 kl_4 (by decide) rfl A (z := 14) rfl (by first | exact hw | (simp (disch := omega) only [hs_same, hs_ne, fl_in, fl_ne, cp_inn, cp_nee]; exact hw)) (W).1 ?_
    refine s_geti dX5_passGifts_7 fl_X5_63 kl_5 (by decide) rfl W (z := 7) rfl ?_
    refine s_icmp_ge (tgt := 71) dX5_passGifts_10 (by decide) (by first | exact hG.2 _ _ | exact b01_in _ | assumption | exact ⟨by omega, by omega⟩) (by first | exact hG.2 _ _ | exact b01_in _ | assumption | exact ⟨by omega, by omega⟩) (fun c1 => ?_) (fun c1 => ?_)
    · exact absurd c1 (by omega)
    · refine s_iconst dX5_passGifts_13 ?_
      refine s_istore_n dX5_passGifts_14 (by decide) rfl (L' := [_, _, _]) rfl ?_
      have hxi := hx i (by omega) (by omega)
      refine lp_X5_pg2 hd A hw W hf F hfr (by omega) (by omega) i0 (by omega) (by rw [fr _ _ (by omega)]; exact hxi.1) (by rw [fr _ _ (by omega), en]; exact hxi.2) (fun c c0 c1 => by rw [fr _ _ (by omega)]; exact gb i c i0 (by omega) c0 c1) (fun h2 hG2 fr2 ev2 => ?_) 7 0 h hG (Int.le_refl _) rfl (fun _ _ _ => rfl) (fun p a b => ?_) (fun p a b => ?_)
      · rw [en, epa, edd, elv, fr (w + 33) i (by omega), show h (r + 17 + 1 + i) = h0 (r + 17 + 1 + i) from funext fun y => fr _ _ (by omega)] at ev2
        rw [en] at fr2
        refine s_iinc dX5_passGifts_65 rfl (by decide) rfl (L' := [_, _, _]) rfl ?_
        refine s_goto (tgt := 2) dX5_passGifts_68 (by decide) ?_
        refine s_fg (L' := [(2, r), (0, _), (9, 0)]) ⟨Or.inr rfl, Or.inr rfl, Or.inl rfl, trivial⟩ ?_
        refine ih (i + 1) _ hG2 (by omega) (by omega) ?_ ?_ ?_
        · intro z y hx
          rw [fr2 z y (by omega)]
          exact fr z y hx
        · intro g p a b a2 b2
          by_cases e : g = i
          · subst e
            exact ev2 p a2 b2
          · rw [fr2 _ _ (by omega)]
            exact tk g p a (by omega) a2 b2
        · intro g p a b a2 b2
          rw [fr2 _ _ (by omega)]
          exact un g p (by omega) b a2 b2
      · rw [un i p (Int.le_refl _) (by omega) a (by omega)]
        rfl
      · rw [un i p (Int.le_refl _) (by omega) a (by omega)]
        omega
set_option maxRecDepth 100000 in
set_option maxHeartbeats 4000000 in
theorem c_X5_passGifts  {h0 : PH} (hd : 5 ≤ d) (A : isO nN r 4) (hw0 : h0 r 14 = w) (W : isO nN w 5) (hf0 : h0 r 15 = f) (F : isO nN f 1) (hfr : f + 1 < r) (p0 : 0 ≤ h0 (w + 14) 1) (p9 : h0 (w + 14) 1 ≤ 12) (g0 : 0 ≤ h0 w 7) (g9 : h0 w 7 ≤ 12) (hx : ∀ g : Int, 0 ≤ g → g < h0 w 7 → 0 ≤ h0 (w + 33) g ∧ h0 (w + 33) g < h0 (w + 14) 1) (gb : ∀ g c : Int, 0 ≤ g → g < h0 w 7 → 0 ≤ c → c < 7 → h0 (r + 17 + 1 + g) c ≤ 1000000) (hz : ∀ g p : Int, 0 ≤ g → g < 12 → 0 ≤ p → p < 12 → h0 (r + 30 + 1 + g) p = 0) (q : ∀ h' : PH, G h' → (∀ z y : Int, ¬ (z = r + 46 ∨ (r + 31 ≤ z ∧ z ≤ r + 42 ∧ 0 ≤ y ∧ y < h0 (w + 14) 1)) → h' z y = h0 z y) → (∀ g p : Int, 0 ≤ g → g < h0 w 7 → 0 ≤ p → p < h0 (w + 14) 1 → h' (r + 30 + 1 + g) p = tg_ (h0 (w + 14) 1) (h0 (w + 29)) (fun y => h0 (f + 1) (32 + y)) (h0 (r + 1)) (h0 (r + 17 + 1 + g)) (h0 (w + 33) g) p ∧ 0 ≤ h' (r + 30 + 1 + g) p ∧ h' (r + 30 + 1 + g) p ≤ 7000000) → Q.1 none nN h') (hG : G h0)  : Cl_ yX5_passGifts MX5_passGifts d bc bs [(2, r)] nN h0 Q := by
  refine s_enter pn_X5 rfl (Nat.le_of_ble_eq_true rfl) (L := [(2, _), (9, 0), (9, 0)]) rfl ?_
  refine s_iconst dX5_passGifts_0 ?_
  refine s_istore_n dX5_passGifts_1 (by decide) rfl (L' := [_, _, _]) rfl ?_
  exact lp_X5_pg1 hd A hw0 W hf0 F hfr p0 p9 g0 g9 hx gb hz q (h0 w 7).toNat 0 h0 hG (by omega) (by omega) (fun _ _ _ => rfl) (fun g p a b => by omega) (fun g p a b a2 b2 => hz g p (by omega) b a2 b2)
set_option maxRecDepth 100000 in
set_option maxHeartbeats 4000000 in
theorem lp_X5_pi  {h0 : PH} (hd : 5 ≤ d) (A : isO nN r 4) (hw0 : h0 r 14 = w) (W : isO nN w 5) (hf0 : h0 r 15 = f) (F : isO nN f 1) (hfr : f + 1 < r) (p0 : 0 ≤ h0 (w + 14) 1) (p9 : h0 (w + 14) 1 ≤ 12) (hh : h0 r 13 = sumI (fun j => if ¬ h0 (w + 30) j = 0 ∧ 0 < h0 (r + 1) j then 1 else 0) 0 (h0 (w + 14) 1).toNat) (a0 : 0 ≤ h0 r 10) (a9 : h0 r 10 ≤ 1000000) (hz : ∀ p : Int, 0 ≤ p → p < 12 → h0 (r + 43) p = 0) (q : ∀ h' : PH, G h' → (∀ z y : Int, ¬ (z = r + 46 ∨ (z = r + 43 ∧ 0 ≤ y ∧ y < h0 (w + 14) 1)) → h' z y = h0 z y) → (∀ p : Int, 0 ≤ p → p < h0 (w + 14) 1 → h' (r + 43) p = sumI (fun x => if ¬ h0 (w + 30) x = 0 ∧ 0 < h0 (r + 1) x then pv_ (h0 (w + 14) 1) (h0 (w + 29)) (fun y => h0 (f + 1) (32 + y)) (h0 (r + 1)) (hp_ (h0 (w + 30)) (h0 (r + 1)) (h0 r 13) (h0 r 10) x) x p else 0) 0 (h0 (w + 14) 1).toNat ∧ 0 ≤ h' (r + 43) p ∧ h' (r + 43) p ≤ 12000000) → Q.1 none nN h') (h1 : 1 ≤ h0 r 13) {each : Int} (he : each = (h0 r 10).tdiv (h0 r 13)) : ∀ (m : Nat) (i ov : Int) (h : PH), (G h) → (0 ≤ i) → (i + m = h0 (w + 14) 1) → (∀ z y : Int, ¬ (z = r + 46 ∨ (z = r + 43 ∧ 0 ≤ y ∧ y < h0 (w + 14) 1)) → h z y = h0 z y) → (∀ p : Int, 0 ≤ p → p < h0 (w + 14) 1 → h (r + 43) p = sumI (fun x => if ¬ h0 (w + 30) x = 0 ∧ 0 < h0 (r + 1) x then pv_ (h0 (w + 14) 1) (h0 (w + 29)) (fun y => h0 (f + 1) (32 + y)) (h0 (r + 1)) (hp_ (h0 (w + 30)) (h0 (r + 1)) (h0 r 13) (h0 r 10) x) x p else 0) 0 i.toNat) → (∀ p : Int, 0 ≤ p → p < h0 (w + 14) 1 → 0 ≤ h (r + 43) p ∧ h (r + 43) p ≤ 1000000 * i) → (ov = (h0 r 10).tmod (h0 r 13) - sumI (fun j => if ¬ h0 (w + 30) j = 0 ∧ 0 < h0 (r + 1) j then 1 else 0) 0 i.toNat) → S_ MX5_passIntestate d bc bs Q 30 [(2, r), (0, each), (0, ov), (0, i)] [] nN h := by
  intro m
  induction m with
  | zero =>
    intro i ov h hG i0 i1 fr tk bd eo
    have hwv := io_of_5 W
    have hrv := io_of_4 A
    have hwr : w + 36 < r := by omega
    clear hwv hrv
    have hw : h r 14 = w := by rw [fr r 14 (by omega)]; exact hw0
    have hf : h r 15 = f := by rw [fr r 15 (by omega)]; exact hf0
    have en := fr (w + 14) 1 (by omega)
    have elv : h (r + 1) = h0 (r + 1) := funext fun y => fr _ _ (by omega)
    have epa : h (w + 29) = h0 (w + 29) := funext fun y => fr _ _ (by omega)
    have edd : (fun y : Int => h (f + 1) (32 + y)) = (fun y => h0 (f + 1) (32 + y)) := funext fun y => fr _ _ (by omega)
    have htm := tmod_inI (y := h0 r 13) (show inI (h0 r 10) from ⟨by omega, by omega⟩)
    have htm0 := Int.tmod_nonneg (h0 r 13) a0
    have hed := Int.tdiv_nonneg a0 (by omega : 0 ≤ h0 r 13)
    have hed3 := tdiv_abs (h0 r 10) (h0 r 13)
    rw [← he] at hed hed3
    have htm1 := htm.2
    have hs0 : 0 ≤ sumI (fun j => if ¬ h0 (w + 30) j = 0 ∧ 0 < h0 (r + 1) j then 1 else 0) 0 i.toNat := sumI_nonneg _ _ (fun j _ _ => by split <;> omega)
    have hs1 := sumI_le (f := fun j => if ¬ h0 (w + 30) j = 0 ∧ 0 < h0 (r + 1) j then (1 : Int) else 0) (b := 1) i.toNat 0 (fun j _ _ => by split <;> omega)
    refine s_iload_n dX5_passIntestate_30 rfl ?_
    refine s_aload_n dX5_passIntestate_31 rfl ?_
    refine s_getr dX5_passIntestate_32 fl_X5_46 kl_4 (by decide) rfl A (z := 14) rfl (by first | exact hw | (simp (disch := omega) only [hs_same, hs_ne, fl_in, fl_ne, cp_inn, cp_nee]; exact hw)) (W).1 ?_
    refine s_getr dX5_passIntestate_35 fl_X5_107 kl_5 (by decide) rfl W (z := 3) rfl (rf_5_3 hG.1 W) (rk_5_3 W).1 ?_
    refine s_geti dX5_passIntestate_38 fl_X5_111 kl_2 (by decide) rfl (rk_5_3 W) (z := 1) rfl ?_
    refine s_icmp_ge (tgt := 81) dX5_passIntestate_41 (by decide) (by first | exact hG.2 _ _ | exact b01_in _ | assumption | exact ⟨by omega, by omega⟩) (by first | exact hG.2 _ _ | exact b01_in _ | assumption | exact ⟨by omega, by omega⟩) (fun c1 => ?_) (fun c1 => ?_)
    · refine s_return dX5_passIntestate_81 rfl (q h hG fr (fun p a b => ?_))
      have e7 : (h0 (w + 14) 1).toNat = i.toNat := by omega
      have := bd p a b
      rw [e7]
      exact ⟨tk p a b, by omega, by omega⟩
    · exact absurd c1 (by omega)
  | succ m ih =>
    intro i ov h hG i0 i1 fr tk bd eo
    have hwv := io_of_5 W
    have hrv := io_of_4 A
    have hwr : w + 36 < r := by omega
    clear hwv hrv
    have hw : h r 14 = w := by rw [fr r 14 (by omega)]; exact hw0
    have hf : h r 15 = f := by rw [fr r 15 (by omega)]; exact hf0
    have en := fr (w + 14) 1 (by omega)
    have elv : h (r + 1) = h0 (r + 1) := funext fun y => fr _ _ (by omega)
    have epa : h (w + 29) = h0 (w + 29) := funext fun y => fr _ _ (by omega)
    have edd : (fun y : Int => h (f + 1) (32 + y)) = (fun y => h0 (f + 1) (32 + y)) := funext fun y => fr _ _ (by omega)
    have htm := tmod_inI (y := h0 r 13) (show inI (h0 r 10) from ⟨by omega, by omega⟩)
    have htm0 := Int.tmod_nonneg (h0 r 13) a0
    have hed := Int.tdiv_nonneg a0 (by omega : 0 ≤ h0 r 13)
    have hed3 := tdiv_abs (h0 r 10) (h0 r 13)
    rw [← he] at hed hed3
    have htm1 := htm.2
    have hs0 : 0 ≤ sumI (fun j => if ¬ h0 (w + 30) j = 0 ∧ 0 < h0 (r + 1) j then 1 else 0) 0 i.toNat := sumI_nonneg _ _ (fun j _ _ => by split <;> omega)
    have hs1 := sumI_le (f := fun j => if ¬ h0 (w + 30) j = 0 ∧ 0 < h0 (r + 1) j then (1 : Int) else 0) (b := 1) i.toNat 0 (fun j _ _ => by split <;> omega)
    refine s_iload_n dX5_passIntestate_30 rfl ?_
    refine s_aload_n dX5_passIntestate_31 rfl ?_
    refine s_getr dX5_passIntestate_32 fl_X5_46 kl_4 (by decide) rfl A (z := 14) rfl (by first | exact hw | (simp (disch := omega) only [hs_same, hs_ne, fl_in, fl_ne, cp_inn, cp_nee]; exact hw)) (W).1 ?_
    refine s_getr dX5_passIntestate_35 fl_X5_107 kl_5 (by decide) rfl W (z := 3) rfl (rf_5_3 hG.1 W) (rk_5_3 W).1 ?_
    refine s_geti dX5_passIntestate_38 fl_X5_111 kl_2 (by decide) rfl (rk_5_3 W) (z := 1) rfl ?_
    refine s_icmp_ge (tgt := 81) dX5_passIntestate_41 (by decide) (by first | exact hG.2 _ _ | exact b01_in _ | assumption | exact ⟨by omega, by omega⟩) (by first | exact hG.2 _ _ | exact b01_in _ | assumption | exact ⟨by omega, by omega⟩) (fun c1 => ?_) (fun c1 => ?_)
    · exact absurd c1 (by omega)
    · refine s_aload_n dX5_passIntestate_44 rfl ?_
      refine s_iload_n dX5_passIntestate_45 rfl ?_
      refine s_callV (d' := d - 1) (bc' := 0) (bs' := 0) (as := [_]) dX5_passIntestate_46 vf_X5_124 (dd_ (by omega) (by decide)) ⟨Nat.zero_le _, Nat.zero_le _⟩ rfl rfl (Nat.le_of_ble_eq_true rfl) kl_4 rfl A ?_
      refine c_X5_isHeir A hG hw W (by omega) (by omega) ?_
      rw [fr (w + 30) i (by omega), fr (r + 1) i (by omega)]
      refine s_if_eq (tgt := 75) dX5_passIntestate_49 (by decide) (by first | exact hG.2 _ _ | exact b01_in _ | assumption | exact ⟨by omega, by omega⟩) (fun c2 => ?_) (fun c2 => ?_)
      · have c2 := b01_0.mp c2
        refine s_iinc dX5_passIntestate_75 rfl (by decide) rfl (L' := [_, _, _, _]) rfl ?_
        refine s_goto (tgt := 30) dX5_passIntestate_78 (by decide) ?_
        refine ih (i + 1) _ _ hG (by omega) (by omega) fr ?_ ?_ ?_
        · intro p a b
          rw [sumI_up _ i0, ← tk p a b, if_neg (by assumption), Int.add_zero]
        · intro p a b
          have := bd p a b
          omega
        · rw [sumI_up _ i0, if_neg (by assumption)]
          omega
      · have c2 := b01_n.mp c2
        refine s_aload_n dX5_passIntestate_52 rfl ?_
        refine s_iload_n dX5_passIntestate_53 rfl ?_
        refine s_if_le (tgt := 63) dX5_passIntestate_54 (by decide) (by first | exact hG.2 _ _ | exact b01_in _ | assumption | exact ⟨by omega, by omega⟩) (fun c3 => ?_) (fun c3 => ?_)
        · refine s_iload_n dX5_passIntestate_63 rfl ?_
          refine s_iload_n dX5_passIntestate_64 rfl ?_
          refine s_aload_n dX5_passIntestate_65 rfl ?_
          refine s_getr dX5_passIntestate_66 fl_X5_33 kl_4 (by decide) rfl A (z := 6) rfl (rf_4_6 hG.1 A) (rk_4_6 A).1 ?_
          refine s_callV (d' := d - 1) (bc' := 0) (bs' := 0) (as := [_, _, _]) dX5_passIntestate_69 vf_X5_211 (dd_ (by omega) (by decide)) ⟨Nat.zero_le _, Nat.zero_le _⟩ rfl rfl (Nat.le_of_ble_eq_true rfl) kl_4 rfl A ?_
          have hpb := hp_bd (ch := h0 (w + 30)) (lv := h0 (r + 1)) (H := h0 r 13) (I := h0 r 10) (x := i) h1 a0
          have ehp : each = hp_ (h0 (w + 30)) (h0 (r + 1)) (h0 r 13) (h0 r 10) i := by
            unfold hp_
            first | (rw [if_pos (by omega)]; omega) | (rw [if_neg (by omega)]; omega)
          refine c_X5_passOn (by omega) A hw W hf F hfr (by omega) (by omega) (rk_4_6 A) (by omega) (by omega) (by omega) (by omega) (by omega) (by omega) (fun p a b => by have := bd p a (by omega); omega) (fun h2 hG1 fr2 ev2 => ?_) hG
          rw [en, epa, edd, elv, ehp] at ev2
          rw [en] at fr2
          refine s_iinc dX5_passIntestate_72 rfl (by decide) rfl (L' := [_, _, _, _]) rfl ?_
          refine s_iinc dX5_passIntestate_75 rfl (by decide) rfl (L' := [_, _, _, _]) rfl ?_
          refine s_goto (tgt := 30) dX5_passIntestate_78 (by decide) ?_
          refine ih (i + 1) _ _ hG1 (by omega) (by omega) ?_ ?_ ?_ ?_
          · intro z y hx
            rw [fr2 z y (by omega)]
            exact fr z y hx
          · intro p a b
            rw [sumI_up _ i0, ← tk p a b, if_pos (by assumption)]
            exact ev2 p a b
          · intro p a b
            rw [ev2 p a b]
            have := bd p a b
            have := pv_bd (n := h0 (w + 14) 1) (pa := h0 (w + 29)) (dd := fun y => h0 (f + 1) (32 + y)) (lv := h0 (r + 1)) (m := hp_ (h0 (w + 30)) (h0 (r + 1)) (h0 r 13) (h0 r 10) i) (x := i) (by omega) i0 (by omega) p a b
            omega
          · rw [sumI_up _ i0, if_pos (by assumption)]
            omega
        · refine s_iload_n dX5_passIntestate_57 rfl ?_
          refine s_iconst dX5_passIntestate_58 ?_
          refine s_iadd dX5_passIntestate_59 ?_
          refine s_goto (tgt := 64) dX5_passIntestate_60 (by decide) ?_
          refine s_iload_n dX5_passIntestate_64 rfl ?_
          refine s_aload_n dX5_passIntestate_65 rfl ?_
          refine s_getr dX5_passIntestate_66 fl_X5_33 kl_4 (by decide) rfl A (z := 6) rfl (rf_4_6 hG.1 A) (rk_4_6 A).1 ?_
          refine s_callV (d' := d - 1) (bc' := 0) (bs' := 0) (as := [_, _, _]) dX5_passIntestate_69 vf_X5_211 (dd_ (by omega) (by decide)) ⟨Nat.zero_le _, Nat.zero_le _⟩ rfl rfl (Nat.le_of_ble_eq_true rfl) kl_4 rfl A ?_
          have hpb := hp_bd (ch := h0 (w + 30)) (lv := h0 (r + 1)) (H := h0 r 13) (I := h0 r 10) (x := i) h1 a0
          have ehp : each + 1 = hp_ (h0 (w + 30)) (h0 (r + 1)) (h0 r 13) (h0 r 10) i := by
            unfold hp_
            first | (rw [if_pos (by omega)]; omega) | (rw [if_neg (by omega)]; omega)
          refine c_X5_passOn (by omega) A hw W hf F hfr (by omega) (by omega) (rk_4_6 A) (by omega) (by omega) (by omega) (by omega) (by omega) (by omega) (fun p a b => by have := bd p a (by omega); omega) (fun h2 hG2 fr2 ev2 => ?_) hG
          rw [en, epa, edd, elv, ehp] at ev2
          rw [en] at fr2
          refine s_iinc dX5_passIntestate_72 rfl (by decide) rfl (L' := [_, _, _, _]) rfl ?_
          refine s_iinc dX5_passIntestate_75 rfl (by decide) rfl (L' := [_, _, _, _]) rfl ?_
          refine s_goto (tgt := 30) dX5_passIntestate_78 (by decide) ?_
          refine ih (i + 1) _ _ hG2 (by omega) (by omega) ?_ ?_ ?_ ?_
          · intro z y hx
            rw [fr2 z y (by omega)]
            exact fr z y hx
          · intro p a b
            rw [sumI_up _ i0, ← tk p a b, if_pos (by assumption)]
            exact ev2 p a b
          · intro p a b
            rw [ev2 p a b]
            have := bd p a b
            have := pv_bd (n := h0 (w + 14) 1) (pa := h0 (w + 29)) (dd := fun y => h0 (f + 1) (32 + y)) (lv := h0 (r + 1)) (m := hp_ (h0 (w + 30)) (h0 (r + 1)) (h0 r 13) (h0 r 10) i) (x := i) (by omega) i0 (by omega) p a b
            omega
          · rw [sumI_up _ i0, if_pos (by assumption)]
            omega
set_option maxRecDepth 100000 in
set_option maxHeartbeats 4000000 in
theorem c_X5_passIntestate  {h0 : PH} (hd : 5 ≤ d) (A : isO nN r 4) (hw0 : h0 r 14 = w) (W : isO nN w 5) (hf0 : h0 r 15 = f) (F : isO nN f 1) (hfr : f + 1 < r) (p0 : 0 ≤ h0 (w + 14) 1) (p9 : h0 (w + 14) 1 ≤ 12) (hh : h0 r 13 = sumI (fun j => if ¬ h0 (w + 30) j = 0 ∧ 0 < h0 (r + 1) j then 1 else 0) 0 (h0 (w + 14) 1).toNat) (a0 : 0 ≤ h0 r 10) (a9 : h0 r 10 ≤ 1000000) (hz : ∀ p : Int, 0 ≤ p → p < 12 → h0 (r + 43) p = 0) (q : ∀ h' : PH, G h' → (∀ z y : Int, ¬ (z = r + 46 ∨ (z = r + 43 ∧ 0 ≤ y ∧ y < h0 (w + 14) 1)) → h' z y = h0 z y) → (∀ p : Int, 0 ≤ p → p < h0 (w + 14) 1 → h' (r + 43) p = sumI (fun x => if ¬ h0 (w + 30) x = 0 ∧ 0 < h0 (r + 1) x then pv_ (h0 (w + 14) 1) (h0 (w + 29)) (fun y => h0 (f + 1) (32 + y)) (h0 (r + 1)) (hp_ (h0 (w + 30)) (h0 (r + 1)) (h0 r 13) (h0 r 10) x) x p else 0) 0 (h0 (w + 14) 1).toNat ∧ 0 ≤ h' (r + 43) p ∧ h' (r + 43) p ≤ 12000000) → Q.1 none nN h') (hG : G h0)  : Cl_ yX5_passIntestate MX5_passIntestate d bc bs [(2, r)] nN h0 Q := by
  refine s_enter pn_X5 rfl (Nat.le_of_ble_eq_true rfl) (L := [(2, _), (9, 0), (9, 0), (9, 0)]) rfl ?_
  have hb13 : 0 ≤ h0 r 13 := by rw [hh]; exact sumI_nonneg _ _ (fun j _ _ => by split <;> omega)
  refine s_aload_n dX5_passIntestate_0 rfl ?_
  refine s_geti dX5_passIntestate_1 fl_X5_104 kl_4 (by decide) rfl A (z := 13) rfl ?_
  refine s_if_ne (tgt := 8) dX5_passIntestate_4 (by decide) (by first | exact hG.2 _ _ | exact b01_in _ | assumption | exact ⟨by omega, by omega⟩) (fun c1 => ?_) (fun c1 => ?_)
  · refine s_aload_n dX5_passIntestate_8 rfl ?_
    refine s_geti dX5_passIntestate_9 fl_X5_95 kl_4 (by decide) rfl A (z := 10) rfl ?_
    refine s_aload_n dX5_passIntestate_12 rfl ?_
    refine s_geti dX5_passIntestate_13 fl_X5_104 kl_4 (by decide) rfl A (z := 13) rfl ?_
    refine s_idiv dX5_passIntestate_16 (by first | exact hG.2 _ _ | exact b01_in _ | assumption | exact ⟨by omega, by omega⟩) (by first | exact hG.2 _ _ | exact b01_in _ | assumption | exact ⟨by omega, by omega⟩) (by omega) (by omega) ?_
    refine s_istore_n dX5_passIntestate_17 (by decide) rfl (L' := [_, _, _, _]) rfl ?_
    refine s_aload_n dX5_passIntestate_18 rfl ?_
    refine s_geti dX5_passIntestate_19 fl_X5_95 kl_4 (by decide) rfl A (z := 10) rfl ?_
    refine s_aload_n dX5_passIntestate_22 rfl ?_
    refine s_geti dX5_passIntestate_23 fl_X5_104 kl_4 (by decide) rfl A (z := 13) rfl ?_
    refine s_irem dX5_passIntestate_26 (by first | exact hG.2 _ _ | exact b01_in _ | assumption | exact ⟨by omega, by omega⟩) (by first | exact hG.2 _ _ | exact b01_in _ | assumption | exact ⟨by omega, by omega⟩) (by omega) (by omega) ?_
    refine s_istore_n dX5_passIntestate_27 (by decide) rfl (L' := [_, _, _, _]) rfl ?_
    refine s_iconst dX5_passIntestate_28 ?_
    refine s_istore_n dX5_passIntestate_29 (by decide) rfl (L' := [_, _, _, _]) rfl ?_
    exact lp_X5_pi hd A hw0 W hf0 F hfr p0 p9 hh a0 a9 hz q (by omega) rfl (h0 (w + 14) 1).toNat 0 _ h0 hG (by omega) (by omega) (fun _ _ _ => rfl) (fun p a b => hz p a (by omega)) (fun p a b => by rw [hz p a (by omega)]; omega) (by simp [sumI])
  · refine s_return dX5_passIntestate_7 rfl (q h0 hG (fun _ _ _ => rfl) (fun p a b => ?_))
    rw [hz p a (by omega)]
    refine ⟨(sumI_zero _ _ (fun x x0 x1 => ?_)).symm, by omega, by omega⟩
    rw [if_neg]
    intro z
    have := sumI_ge (f := fun j => if ¬ h0 (w + 30) j = 0 ∧ 0 < h0 (r + 1) j then (1 : Int) else 0) (h0 (w + 14) 1).toNat 0 (fun j _ _ => by split <;> omega) x x0 x1
    rw [if_pos z] at this
    omega
end X5K
