/-! WillHouse$Reckoning, what writes: an amount passed to a stock; all gifts; what is intestate -/
section X5J
variable {d bc bs : Nat} {Q : PQ} {h : PH} {r w f : Int}
set_option maxRecDepth 100000 in
set_option maxHeartbeats 4000000 in
theorem lp_X5_passOn  {h0 : PH} (hd : 4 ≤ d) (A : isO nN r 4) (hw0 : h0 r 14 = w) (W : isO nN w 5) (hf0 : h0 r 15 = f) (F : isO nN f 1) (hfr : f + 1 < r) (p0 : 0 ≤ h0 (w + 14) 1) (p9 : h0 (w + 14) 1 ≤ 12) {b x am : Int} (B : isA nN b 0 12) (hb : r + 31 ≤ b) (hb2 : b ≤ r + 43) (x0 : 0 ≤ x) (x1 : x < h0 (w + 14) 1) (a0 : 0 ≤ am) (a9 : am ≤ 1000000) (hbd : ∀ p : Int, 0 ≤ p → p < h0 (w + 14) 1 → 0 ≤ h0 b p ∧ h0 b p ≤ 100000000) (k : ∀ h' : PH, G h' → (∀ z y : Int, ¬ (z = r + 46 ∨ (z = b ∧ 0 ≤ y ∧ y < h0 (w + 14) 1)) → h' z y = h0 z y) → (∀ p : Int, 0 ≤ p → p < h0 (w + 14) 1 → h' b p = h0 b p + pv_ (h0 (w + 14) 1) (h0 (w + 29)) (fun y => h0 (f + 1) (32 + y)) (h0 (r + 1)) am x p) → Q.1 none nN h') (TG : Int → Int) (hTG : ∀ p : Int, 0 ≤ p → p < h0 (w + 14) 1 → TG p = ps_ (h0 (w + 14) 1) (h0 (w + 29)) (fun y => h0 (f + 1) (32 + y)) (h0 (r + 1)) (h0 (w + 14) 1 - x).toNat x (fun y => if y = x then am else 0) p) : ∀ (m : Nat) (i : Int) (h : PH), (G h) → (x ≤ i) → (i + m = h0 (w + 14) 1) → (∀ z y : Int, ¬ (z = r + 46 ∨ (z = b ∧ 0 ≤ y ∧ y < h0 (w + 14) 1)) → h z y = h0 z y) → (∀ p : Int, 0 ≤ p → p < h0 (w + 14) 1 → TG p = ps_ (h0 (w + 14) 1) (h0 (w + 29)) (fun y => h0 (f + 1) (32 + y)) (h0 (r + 1)) m i (h (r + 46)) p) → (∀ p : Int, 0 ≤ p → p < h0 (w + 14) 1 → 0 ≤ h (r + 46) p ∧ h (r + 46) p ≤ am) → (∀ p : Int, 0 ≤ p → p < h0 (w + 14) 1 → p < i → h b p = h0 b p + (if h0 (f + 1) (32 + p) = 0 then TG p else 0)) → (∀ p : Int, i ≤ p → p < h0 (w + 14) 1 → h b p = h0 b p) → S_ MX5_passOn d bc bs Q 18 [(2, r), (0, am), (0, x), (2, b), (0, i)] [] nN h := by
  intro m
  induction m with
  | zero =>
    intro i h hG i0 i1 fr ev bd tk un
    have hwv := io_of_5 W
    have hrv := io_of_4 A
    have hwr : w + 36 < r := by omega
    clear hwv hrv
    have hw : h r 14 = w := by rw [fr r 14 (by omega)]; exact hw0
    have hf : h r 15 = f := by rw [fr r 15 (by omega)]; exact hf0
    have en := fr (w + 14) 1 (by omega)
    have ed := fr (f + 1) (32 + i) (by omega)
    have elv : ∀ y : Int, h (r + 1) y = h0 (r + 1) y := fun y => fr _ _ (by omega)
    have epa : ∀ y : Int, h (w + 29) y = h0 (w + 29) y := fun y => fr _ _ (by omega)
    refine s_iload dX5_passOn_18 rfl ?_
    refine s_aload_n dX5_passOn_20 rfl ?_
    refine s_getr dX5_passOn_21 fl_X5_46 kl_4 (by decide) rfl A (z := 14) rfl (by first | exact hw | (simp (disch := omega) only [hs_same, hs_ne, fl_in, fl_ne, cp_inn, cp_nee]; exact hw)) (W).1 ?_
    refine s_getr dX5_passOn_24 fl_X5_107 kl_5 (by decide) rfl W (z := 3) rfl (rf_5_3 hG.1 W) (rk_5_3 W).1 ?_
    refine s_geti dX5_passOn_27 fl_X5_111 kl_2 (by decide) rfl (rk_5_3 W) (z := 1) rfl ?_
    refine s_icmp_ge (tgt := 84) dX5_passOn_30 (by decide) (by first | exact hG.2 _ _ | exact b01_in _ | assumption | exact ⟨by omega, by omega⟩) (by first | exact hG.2 _ _ | exact b01_in _ | assumption | exact ⟨by omega, by omega⟩) (fun c1 => ?_) (fun c1 => ?_)
    · refine s_return dX5_passOn_84 rfl (k _ hG fr (fun p a c => ?_))
      rw [tk p a c (by omega)]
      unfold pv_
      rw [hTG p a c]
    · exact absurd c1 (by omega)
  | succ m ih =>
    intro i h hG i0 i1 fr ev bd tk un
    have hwv := io_of_5 W
    have hrv := io_of_4 A
    have hwr : w + 36 < r := by omega
    clear hwv hrv
    have hw : h r 14 = w := by rw [fr r 14 (by omega)]; exact hw0
    have hf : h r 15 = f := by rw [fr r 15 (by omega)]; exact hf0
    have bi := bd i (by omega) (by omega)
    have ui := un i (by omega) (by omega)
    have hbi := hbd i (by omega) (by omega)
    have en := fr (w + 14) 1 (by omega)
    have ed := fr (f + 1) (32 + i) (by omega)
    have elv : ∀ y : Int, h (r + 1) y = h0 (r + 1) y := fun y => fr _ _ (by omega)
    have epa : ∀ y : Int, h (w + 29) y = h0 (w + 29) y := fun y => fr _ _ (by omega)
    refine s_iload dX5_passOn_18 rfl ?_
    refine s_aload_n dX5_passOn_20 rfl ?_
    refine s_getr dX5_passOn_21 fl_X5_46 kl_4 (by decide) rfl A (z := 14) rfl (by first | exact hw | (simp (disch := omega) only [hs_same, hs_ne, fl_in, fl_ne, cp_inn, cp_nee]; exact hw)) (W).1 ?_
    refine s_getr dX5_passOn_24 fl_X5_107 kl_5 (by decide) rfl W (z := 3) rfl (rf_5_3 hG.1 W) (rk_5_3 W).1 ?_
    refine s_geti dX5_passOn_27 fl_X5_111 kl_2 (by decide) rfl (rk_5_3 W) (z := 1) rfl ?_
    refine s_icmp_ge (tgt := 84) dX5_passOn_30 (by decide) (by first | exact hG.2 _ _ | exact b01_in _ | assumption | exact ⟨by omega, by omega⟩) (by first | exact hG.2 _ _ | exact b01_in _ | assumption | exact ⟨by omega, by omega⟩) (fun c1 => ?_) (fun c1 => ?_)
    · exact absurd c1 (by omega)
    · refine s_aload_n dX5_passOn_33 rfl ?_
      refine s_getr dX5_passOn_34 fl_X5_50 kl_4 (by decide) rfl A (z := 15) rfl (by first | exact hf | (simp (disch := omega) only [hs_same, hs_ne, fl_in, fl_ne, cp_inn, cp_nee]; exact hf)) (F).1 ?_
      refine s_iload dX5_passOn_37 rfl ?_
      refine s_callV (d' := d - 1) (bc' := 0) (bs' := 0) (as := [_]) dX5_passOn_39 vf_X5_116 (dd_ (by omega) (by decide)) ⟨Nat.zero_le _, Nat.zero_le _⟩ rfl rfl (Nat.le_of_ble_eq_true rfl) kl_1 rfl F ?_
      refine c_X2_isDead F hG (by omega) (by omega) ?_
      rw [ed]
      refine s_if_ne (tgt := 62) dX5_passOn_42 (by decide) (by first | exact hG.2 _ _ | exact b01_in _ | assumption | exact ⟨by omega, by omega⟩) (fun c2 => ?_) (fun c2 => ?_)
      · have c2 := b01_n.mp c2
        refine s_aload_n dX5_passOn_62 rfl ?_
        refine s_getr dX5_passOn_63 fl_X5_43 kl_4 (by decide) rfl A (z := 18) rfl (rf_4_18 hG.1 A) (rk_4_18 A).1 ?_
        refine s_iload dX5_passOn_66 rfl ?_
        refine s_iaload dX5_passOn_68 (rk_4_18 A) (by omega) (by omega) ?_
        refine s_if_le (tgt := 78) dX5_passOn_69 (by decide) (by first | exact hG.2 _ _ | exact b01_in _ | assumption | exact ⟨by omega, by omega⟩) (fun c3 => ?_) (fun c3 => ?_)
        · refine s_iinc dX5_passOn_78 rfl (by decide) rfl (L' := [_, _, _, _, _]) rfl ?_
          refine s_goto (tgt := 18) dX5_passOn_81 (by decide) ?_
          refine ih (i + 1) _ hG (by omega) (by omega) fr ?_ bd ?_ (fun p a c => un p (by omega) c)
          · intro p a c
            rw [ev p a c, ps_, if_neg (fun z => by omega)]
          · intro p a c e9
            by_cases e : p = i
            · subst e
              rw [if_neg (by omega), un p (by omega) c, Int.add_zero]
            · exact tk p a c (by omega)
        · refine s_aload_n dX5_passOn_72 rfl ?_
          refine s_iload dX5_passOn_73 rfl ?_
          refine s_callV (d' := d - 1) (bc' := 0) (bs' := 0) (as := [_]) dX5_passOn_75 vf_X5_215 (dd_ (by omega) (by decide)) ⟨Nat.zero_le _, Nat.zero_le _⟩ rfl rfl (Nat.le_of_ble_eq_true rfl) kl_4 rfl A ?_
          refine c_X5_passToIssue (by omega) A hw W (by omega) (by omega) (by omega) (by omega) (by omega) (fun h2 hG1 fr2 ev2 => ?_) (by omega) hG
          refine s_iinc dX5_passOn_78 rfl (by decide) rfl (L' := [_, _, _, _, _]) rfl ?_
          refine s_goto (tgt := 18) dX5_passOn_81 (by decide) ?_
          rw [en, show h (w + 29) = h0 (w + 29) from funext epa, show h (r + 1) = h0 (r + 1) from funext elv] at ev2
          refine ih (i + 1) _ hG1 (by omega) (by omega) ?_ ?_ ?_ ?_ ?_
          · intro z y hx
            rw [fr2 z y (by omega)]
            exact fr z y hx
          · intro p a c
            rw [ev p a c, ps_, if_pos ⟨by omega, by omega⟩]
            exact ps_congr m (i + 1) _ _ (by omega) (by omega) (fun y y0 y1 => (ev2 y y0 y1).symm) p a c
          · intro p a c
            rw [ev2 p a c]
            exact ds_bd (by omega) (by omega) bd p a c
          · intro p a c e9
            rw [fr2 b p (by omega)]
            by_cases e : p = i
            · subst e
              rw [if_neg (by omega), un p (by omega) c, Int.add_zero]
            · exact tk p a c (by omega)
          · intro p a c
            rw [fr2 b p (by omega)]
            exact un p (by omega) c
      · have c2 := b01_0.mp c2
        refine s_aload_n dX5_passOn_45 rfl ?_
        refine s_iload dX5_passOn_46 rfl ?_
        refine s_dup2 dX5_passOn_48 rfl rfl ?_
        refine s_iaload dX5_passOn_49 B (by omega) (by omega) ?_
        refine s_aload_n dX5_passOn_50 rfl ?_
        refine s_getr dX5_passOn_51 fl_X5_43 kl_4 (by decide) rfl A (z := 18) rfl (rf_4_18 hG.1 A) (rk_4_18 A).1 ?_
        refine s_iload dX5_passOn_54 rfl ?_
        refine s_iaload dX5_passOn_56 (rk_4_18 A) (by omega) (by omega) ?_
        refine s_iadd dX5_passOn_57 ?_
        refine s_iastoreG dX5_passOn_58 B (by omega) (by omega) hG (by first | exact hG.2 _ _ | exact b01_in _ | assumption | exact ⟨by omega, by omega⟩) (fun hG2 => ?_)
        refine s_goto (tgt := 78) dX5_passOn_59 (by decide) ?_
        refine s_iinc dX5_passOn_78 rfl (by decide) rfl (L' := [_, _, _, _, _]) rfl ?_
        refine s_goto (tgt := 18) dX5_passOn_81 (by decide) ?_
        refine ih (i + 1) _ hG2 (by omega) (by omega) ?_ ?_ ?_ ?_ ?_
        · intro z y hx
          simp (disch := omega) only [hs_same, hs_ne, fl_in, fl_ne, cp_inn, cp_nee]
          exact fr z y hx
        · intro p a c
          rw [ev p a c, ps_, if_neg (fun z => by omega)]
          refine ps_congr m (i + 1) _ _ (by omega) (by omega) (fun y y0 y1 => ?_) p a c
          simp (disch := omega) only [hs_same, hs_ne, fl_in, fl_ne, cp_inn, cp_nee]
        · intro p a c
          simp (disch := omega) only [hs_same, hs_ne, fl_in, fl_ne, cp_inn, cp_nee]
          exact bd p a c
        · intro p a c e9
          by_cases e : p = i
          · subst e
            simp (disch := omega) only [hs_same, hs_ne, fl_in, fl_ne, cp_inn, cp_nee]
            rw [if_pos (by omega), un p (by omega) c, ev p a c, ps_le _ _ _ _ (Int.le_refl _)]
          · simp (disch := omega) only [hs_same, hs_ne, fl_in, fl_ne, cp_inn, cp_nee]
            exact tk p a c (by omega)
        · intro p a c
          simp (disch := omega) only [hs_same, hs_ne, fl_in, fl_ne, cp_inn, cp_nee]
          exact un p (by omega) c
set_option maxRecDepth 100000 in
set_option maxHeartbeats 4000000 in
theorem c_X5_passOn  {h0 : PH} (hd : 4 ≤ d) (A : isO nN r 4) (hw0 : h0 r 14 = w) (W : isO nN w 5) (hf0 : h0 r 15 = f) (F : isO nN f 1) (hfr : f + 1 < r) (p0 : 0 ≤ h0 (w + 14) 1) (p9 : h0 (w + 14) 1 ≤ 12) {b x am : Int} (B : isA nN b 0 12) (hb : r + 31 ≤ b) (hb2 : b ≤ r + 43) (x0 : 0 ≤ x) (x1 : x < h0 (w + 14) 1) (a0 : 0 ≤ am) (a9 : am ≤ 1000000) (hbd : ∀ p : Int, 0 ≤ p → p < h0 (w + 14) 1 → 0 ≤ h0 b p ∧ h0 b p ≤ 100000000) (k : ∀ h' : PH, G h' → (∀ z y : Int, ¬ (z = r + 46 ∨ (z = b ∧ 0 ≤ y ∧ y < h0 (w + 14) 1)) → h' z y = h0 z y) → (∀ p : Int, 0 ≤ p → p < h0 (w + 14) 1 → h' b p = h0 b p + pv_ (h0 (w + 14) 1) (h0 (w + 29)) (fun y => h0 (f + 1) (32 + y)) (h0 (r + 1)) am x p) → Q.1 none nN h') (hG : G h0)  : Cl_ yX5_passOn MX5_passOn d bc bs [(2, r), (0, am), (0, x), (2, b)] nN h0 Q := by
  refine s_enter pn_X5 rfl (Nat.le_of_ble_eq_true rfl) (L := [(2, _), (0, _), (0, _), (2, _), (9, 0)]) rfl ?_
  have hwv := io_of_5 W
  have hrv := io_of_4 A
  have hwr : w + 36 < r := by omega
  clear hwv hrv
  refine s_aload_n dX5_passOn_0 rfl ?_
  refine s_getr dX5_passOn_1 fl_X5_43 kl_4 (by decide) rfl A (z := 18) rfl (rf_4_18 hG.1 A) (rk_4_18 A).1 ?_
  refine s_iconst dX5_passOn_4 ?_
  refine s_callS (d' := d - 1) (bc' := 0) (bs' := 0) (as := [_, _]) dX5_passOn_5 sf_X5_89 (dd_ (by omega) (by decide)) ⟨Nat.zero_le _, Nat.zero_le _⟩ rfl rfl (Nat.le_of_ble_eq_true rfl) ?_
  refine c_fill (rk_4_18 A) (by first | exact hG.2 _ _ | exact b01_in _ | assumption | exact ⟨by omega, by omega⟩) hG (fun hG1 => ?_)
  refine s_aload_n dX5_passOn_8 rfl ?_
  refine s_getr dX5_passOn_9 fl_X5_43 kl_4 (by decide) rfl A (z := 18) rfl (rf_4_18 hG1.1 A) (rk_4_18 A).1 ?_
  refine s_iload_n dX5_passOn_12 rfl ?_
  refine s_iload_n dX5_passOn_13 rfl ?_
  refine s_iastoreG dX5_passOn_14 (rk_4_18 A) (by omega) (by omega) hG1 (by first | exact hG1.2 _ _ | exact hG.2 _ _ | exact b01_in _ | assumption | exact ⟨by omega, by omega⟩) (fun hG2 => ?_)
  refine s_iload_n dX5_passOn_15 rfl ?_
  refine s_istore dX5_passOn_16 (by decide) rfl (L' := [_, _, _, _, _]) rfl ?_
  refine lp_X5_passOn hd A hw0 W hf0 F hfr p0 p9 B hb hb2 x0 x1 a0 a9 hbd k (ps_ (h0 (w + 14) 1) (h0 (w + 29)) (fun y => h0 (f + 1) (32 + y)) (h0 (r + 1)) (h0 (w + 14) 1 - x).toNat x (fun y => if y = x then am else 0)) (fun p a c => rfl) (h0 (w + 14) 1 - x).toNat x _ hG2 (Int.le_refl _) (by omega) ?_ ?_ ?_ ?_ ?_
  · intro z y hx
    simp (disch := omega) only [hs_same, hs_ne, fl_in, fl_ne, cp_inn, cp_nee]
  · intro p a c
    refine ps_congr _ x _ _ x0 (by omega) (fun y y0 y1 => ?_) p a c
    by_cases e : y = x
    · subst e
      rw [if_pos rfl]
      simp (disch := omega) only [hs_same, hs_ne, fl_in, fl_ne, cp_inn, cp_nee]
    · rw [if_neg e]
      simp (disch := omega) only [hs_same, hs_ne, fl_in, fl_ne, cp_inn, cp_nee]
  · intro p a c
    by_cases e : p = x
    · subst e
      simp (disch := omega) only [hs_same, hs_ne, fl_in, fl_ne, cp_inn, cp_nee]
      omega
    · simp (disch := omega) only [hs_same, hs_ne, fl_in, fl_ne, cp_inn, cp_nee]
      omega
  · intro p a c e9
    simp (disch := omega) only [hs_same, hs_ne, fl_in, fl_ne, cp_inn, cp_nee]
    rw [ps_le _ _ _ _ (by omega), if_neg (show ¬ p = x by omega)]
    split <;> omega
  · intro p a c
    simp (disch := omega) only [hs_same, hs_ne, fl_in, fl_ne, cp_inn, cp_nee]
end X5J
