/-! WillHouse$Reckoning, what writes: what is passed on by stocks -/
section X5I
variable {d bc bs : Nat} {Q : PQ} {h : PH} {r w f : Int}
set_option maxRecDepth 100000 in
set_option maxHeartbeats 4000000 in
theorem lp_X5_pti2  {h0 : PH} (hd : 2 ≤ d) (A : isO nN r 4) (hw0 : h0 r 14 = w) (W : isO nN w 5) (p0 : 0 ≤ h0 (w + 14) 1) (p9 : h0 (w + 14) 1 ≤ 12) {q : Int} (q0 : 0 ≤ q) (q1 : q < h0 (w + 14) 1) (hq : 0 ≤ h0 (r + 46) q) (k : ∀ h' : PH, G h' → (∀ x y : Int, ¬ x = r + 46 → h' x y = h0 x y) → (∀ p : Int, 0 ≤ p → p < h0 (w + 14) 1 → h' (r + 46) p = ds_ (h0 (w + 14) 1) (h0 (w + 29)) (h0 (r + 1)) (h0 (r + 46)) q p) → Q.1 none nN h') (hiq : inI (h0 (r + 46) q)) (hbq : h0 (r + 46) q ≤ 1000000) {each : Int} (he : each = (h0 (r + 46) q).tdiv (ci__ (h0 (w + 29)) (h0 (r + 1)) q (q + 1) (h0 (w + 14) 1 - 1 - q).toNat)) : ∀ (m : Nat) (i ov : Int) (h : PH), (G h) → (q + 1 ≤ i) → (i + m = h0 (w + 14) 1) → (∀ x y : Int, ¬ x = r + 46 → h x y = h0 x y) → (∀ p : Int, 0 ≤ p → p < h0 (w + 14) 1 → p < i → h (r + 46) p = ds_ (h0 (w + 14) 1) (h0 (w + 29)) (h0 (r + 1)) (h0 (r + 46)) q p) → (∀ p : Int, i ≤ p → p < h0 (w + 14) 1 → h (r + 46) p = h0 (r + 46) p) → (ov = (h0 (r + 46) q).tmod (ci__ (h0 (w + 29)) (h0 (r + 1)) q (q + 1) (h0 (w + 14) 1 - 1 - q).toNat) - ci__ (h0 (w + 29)) (h0 (r + 1)) q (q + 1) (i - q - 1).toNat) → S_ MX5_passToIssue d bc bs Q 72 [(2, r), (0, q), (0, ci__ (h0 (w + 29)) (h0 (r + 1)) q (q + 1) (h0 (w + 14) 1 - 1 - q).toNat), (0, each), (0, ov), (0, i)] [] nN h := by
  intro m
  induction m with
  | zero =>
    intro i ov h hG i0 i1 fr v1 v2 eo
    have hwv := io_of_5 W
    have hrv := io_of_4 A
    have hwr : w + 36 < r := by omega
    clear hwv hrv
    have hw : h r 14 = w := by rw [fr r 14 (by omega)]; exact hw0
    have en := fr (w + 14) 1 (by omega)
    have hnn := ci_nn (h0 (w + 29)) (h0 (r + 1)) q (q + 1) (i - q - 1).toNat
    have hbb := ci_bd (h0 (w + 29)) (h0 (r + 1)) q (q + 1) (i - q - 1).toNat
    have hgq := hG.2 (r + 46) q
    have htm := tmod_inI (y := ci__ (h0 (w + 29)) (h0 (r + 1)) q (q + 1) (h0 (w + 14) 1 - 1 - q).toNat) (by assumption : inI (h0 (r + 46) q))
    have htm0 := Int.tmod_nonneg (ci__ (h0 (w + 29)) (h0 (r + 1)) q (q + 1) (h0 (w + 14) 1 - 1 - q).toNat) hq
    have hed := Int.tdiv_nonneg hq (ci_nn (h0 (w + 29)) (h0 (r + 1)) q (q + 1) (h0 (w + 14) 1 - 1 - q).toNat)
    have hed3 := tdiv_abs (h0 (r + 46) q) (ci__ (h0 (w + 29)) (h0 (r + 1)) q (q + 1) (h0 (w + 14) 1 - 1 - q).toNat)
    rw [← he] at hed hed3
    have htm1 := htm.2
    refine s_iload dX5_passToIssue_72 rfl ?_
    refine s_aload_n dX5_passToIssue_74 rfl ?_
    refine s_getr dX5_passToIssue_75 fl_X5_46 kl_4 (by decide) rfl A (z := 14) rfl (by first | exact hw | (simp (disch := omega) only [hs_same, hs_ne, fl_in, fl_ne, cp_inn, cp_nee]; exact hw)) (W).1 ?_
    refine s_getr dX5_passToIssue_78 fl_X5_107 kl_5 (by decide) rfl W (z := 3) rfl (rf_5_3 hG.1 W) (rk_5_3 W).1 ?_
    refine s_geti dX5_passToIssue_81 fl_X5_111 kl_2 (by decide) rfl (rk_5_3 W) (z := 1) rfl ?_
    refine s_icmp_ge (tgt := 125) dX5_passToIssue_84 (by decide) (by first | exact hG.2 _ _ | exact b01_in _ | assumption | exact ⟨by omega, by omega⟩) (by first | exact hG.2 _ _ | exact b01_in _ | assumption | exact ⟨by omega, by omega⟩) (fun c1 => ?_) (fun c1 => ?_)
    · exact s_return dX5_passToIssue_125 rfl (k _ hG fr (fun p a b => v1 p a b (by omega)))
    · exact absurd c1 (by omega)
  | succ m ih =>
    intro i ov h hG i0 i1 fr v1 v2 eo
    have hwv := io_of_5 W
    have hrv := io_of_4 A
    have hwr : w + 36 < r := by omega
    clear hwv hrv
    have hw : h r 14 = w := by rw [fr r 14 (by omega)]; exact hw0
    have en := fr (w + 14) 1 (by omega)
    have hnn := ci_nn (h0 (w + 29)) (h0 (r + 1)) q (q + 1) (i - q - 1).toNat
    have hbb := ci_bd (h0 (w + 29)) (h0 (r + 1)) q (q + 1) (i - q - 1).toNat
    have hgq := hG.2 (r + 46) q
    have htm := tmod_inI (y := ci__ (h0 (w + 29)) (h0 (r + 1)) q (q + 1) (h0 (w + 14) 1 - 1 - q).toNat) (by assumption : inI (h0 (r + 46) q))
    have htm0 := Int.tmod_nonneg (ci__ (h0 (w + 29)) (h0 (r + 1)) q (q + 1) (h0 (w + 14) 1 - 1 - q).toNat) hq
    have hed := Int.tdiv_nonneg hq (ci_nn (h0 (w + 29)) (h0 (r + 1)) q (q + 1) (h0 (w + 14) 1 - 1 - q).toNat)
    have hed3 := tdiv_abs (h0 (r + 46) q) (ci__ (h0 (w + 29)) (h0 (r + 1)) q (q + 1) (h0 (w + 14) 1 - 1 - q).toNat)
    rw [← he] at hed hed3
    have htm1 := htm.2
    refine s_iload dX5_passToIssue_72 rfl ?_
    refine s_aload_n dX5_passToIssue_74 rfl ?_
    refine s_getr dX5_passToIssue_75 fl_X5_46 kl_4 (by decide) rfl A (z := 14) rfl (by first | exact hw | (simp (disch := omega) only [hs_same, hs_ne, fl_in, fl_ne, cp_inn, cp_nee]; exact hw)) (W).1 ?_
    refine s_getr dX5_passToIssue_78 fl_X5_107 kl_5 (by decide) rfl W (z := 3) rfl (rf_5_3 hG.1 W) (rk_5_3 W).1 ?_
    refine s_geti dX5_passToIssue_81 fl_X5_111 kl_2 (by decide) rfl (rk_5_3 W) (z := 1) rfl ?_
    refine s_icmp_ge (tgt := 125) dX5_passToIssue_84 (by decide) (by first | exact hG.2 _ _ | exact b01_in _ | assumption | exact ⟨by omega, by omega⟩) (by first | exact hG.2 _ _ | exact b01_in _ | assumption | exact ⟨by omega, by omega⟩) (fun c1 => ?_) (fun c1 => ?_)
    · exact absurd c1 (by omega)
    · refine s_aload_n dX5_passToIssue_87 rfl ?_
      refine s_iload dX5_passToIssue_88 rfl ?_
      refine s_iload_n dX5_passToIssue_90 rfl ?_
      refine s_callV (d' := d - 1) (bc' := 0) (bs' := 0) (as := [_, _]) dX5_passToIssue_91 vf_X5_218 (dd_ (by omega) (by decide)) ⟨Nat.zero_le _, Nat.zero_le _⟩ rfl rfl (Nat.le_of_ble_eq_true rfl) kl_4 rfl A ?_
      refine c_X5_isLivingIssue A hG hw W (by omega) (by omega) ⟨by omega, by omega⟩ ?_
      rw [show h (w + 29) i = h0 (w + 29) i from fr _ _ (by omega), show h (r + 1) i = h0 (r + 1) i from fr _ _ (by omega)]
      refine s_if_eq (tgt := 119) dX5_passToIssue_94 (by decide) (by first | exact hG.2 _ _ | exact b01_in _ | assumption | exact ⟨by omega, by omega⟩) (fun c2 => ?_) (fun c2 => ?_)
      · have c2 := b01_0.mp c2
        refine s_iinc dX5_passToIssue_119 rfl (by decide) rfl (L' := [_, _, _, _, _, _]) rfl ?_
        refine s_goto (tgt := 72) dX5_passToIssue_122 (by decide) ?_
        refine ih (i + 1) _ _ hG (by omega) (by omega) ?_ ?_ ?_ ?_
        · intro x y hx
          try simp (disch := omega) only [hs_same, hs_ne, fl_in, fl_ne, cp_inn, cp_nee]
          exact fr x y hx
        · intro p a b c
          by_cases e : p = i
          · subst e
            first
              | (simp (disch := omega) only [hs_same, hs_ne, fl_in, fl_ne, cp_inn, cp_nee]; unfold ds_; rw [if_pos ⟨by omega, by omega, by assumption⟩]; (first | rw [if_pos (by omega)] | rw [if_neg (by omega)]); omega)
              | (rw [v2 p (by omega) b]; unfold ds_; rw [if_neg (fun z => by first | (exact absurd z.2.2 (by assumption)) | omega)])
          · try simp (disch := omega) only [hs_same, hs_ne, fl_in, fl_ne, cp_inn, cp_nee]
            exact v1 p a b (by omega)
        · intro p a b
          try simp (disch := omega) only [hs_same, hs_ne, fl_in, fl_ne, cp_inn, cp_nee]
          exact v2 p (by omega) b
        · have := ci_up (pa := (h0 (w + 29))) (lv := (h0 (r + 1))) (q := q) (i := i) (by omega)
          first
            | (rw [if_pos (by assumption)] at this; omega)
            | (rw [if_neg (by assumption)] at this; omega)
      · have c2 := b01_n.mp c2
        refine s_aload_n dX5_passToIssue_97 rfl ?_
        refine s_getr dX5_passToIssue_98 fl_X5_43 kl_4 (by decide) rfl A (z := 18) rfl (rf_4_18 hG.1 A) (rk_4_18 A).1 ?_
        refine s_iload dX5_passToIssue_101 rfl ?_
        refine s_iload dX5_passToIssue_103 rfl ?_
        refine s_if_le (tgt := 114) dX5_passToIssue_105 (by decide) (by first | exact hG.2 _ _ | exact b01_in _ | assumption | exact ⟨by omega, by omega⟩) (fun c3 => ?_) (fun c3 => ?_)
        · refine s_iload_n dX5_passToIssue_114 rfl ?_
          refine s_iastoreG dX5_passToIssue_115 (rk_4_18 A) (by omega) (by omega) hG (by first | exact hG.2 _ _ | exact b01_in _ | assumption | exact ⟨by omega, by omega⟩) (fun hG1 => ?_)
          refine s_iinc dX5_passToIssue_116 rfl (by decide) rfl (L' := [_, _, _, _, _, _]) rfl ?_
          refine s_iinc dX5_passToIssue_119 rfl (by decide) rfl (L' := [_, _, _, _, _, _]) rfl ?_
          refine s_goto (tgt := 72) dX5_passToIssue_122 (by decide) ?_
          refine ih (i + 1) _ _ hG1 (by omega) (by omega) ?_ ?_ ?_ ?_
          · intro x y hx
            try simp (disch := omega) only [hs_same, hs_ne, fl_in, fl_ne, cp_inn, cp_nee]
            exact fr x y hx
          · intro p a b c
            by_cases e : p = i
            · subst e
              first
                | (simp (disch := omega) only [hs_same, hs_ne, fl_in, fl_ne, cp_inn, cp_nee]; unfold ds_; rw [if_pos ⟨by omega, by omega, by assumption⟩]; (first | rw [if_pos (by omega)] | rw [if_neg (by omega)]); omega)
                | (rw [v2 p (by omega) b]; unfold ds_; rw [if_neg (fun z => by first | (exact absurd z.2.2 (by assumption)) | omega)])
            · try simp (disch := omega) only [hs_same, hs_ne, fl_in, fl_ne, cp_inn, cp_nee]
              exact v1 p a b (by omega)
          · intro p a b
            try simp (disch := omega) only [hs_same, hs_ne, fl_in, fl_ne, cp_inn, cp_nee]
            exact v2 p (by omega) b
          · have := ci_up (pa := (h0 (w + 29))) (lv := (h0 (r + 1))) (q := q) (i := i) (by omega)
            first
              | (rw [if_pos (by assumption)] at this; omega)
              | (rw [if_neg (by assumption)] at this; omega)
        · refine s_iload_n dX5_passToIssue_108 rfl ?_
          refine s_iconst dX5_passToIssue_109 ?_
          refine s_iadd dX5_passToIssue_110 ?_
          refine s_goto (tgt := 115) dX5_passToIssue_111 (by decide) ?_
          refine s_iastoreG dX5_passToIssue_115 (rk_4_18 A) (by omega) (by omega) hG (by first | exact hG.2 _ _ | exact b01_in _ | assumption | exact ⟨by omega, by omega⟩) (fun hG2 => ?_)
          refine s_iinc dX5_passToIssue_116 rfl (by decide) rfl (L' := [_, _, _, _, _, _]) rfl ?_
          refine s_iinc dX5_passToIssue_119 rfl (by decide) rfl (L' := [_, _, _, _, _, _]) rfl ?_
          refine s_goto (tgt := 72) dX5_passToIssue_122 (by decide) ?_
          refine ih (i + 1) _ _ hG2 (by omega) (by omega) ?_ ?_ ?_ ?_
          · intro x y hx
            try simp (disch := omega) only [hs_same, hs_ne, fl_in, fl_ne, cp_inn, cp_nee]
            exact fr x y hx
          · intro p a b c
            by_cases e : p = i
            · subst e
              first
                | (simp (disch := omega) only [hs_same, hs_ne, fl_in, fl_ne, cp_inn, cp_nee]; unfold ds_; rw [if_pos ⟨by omega, by omega, by assumption⟩]; (first | rw [if_pos (by omega)] | rw [if_neg (by omega)]); omega)
                | (rw [v2 p (by omega) b]; unfold ds_; rw [if_neg (fun z => by first | (exact absurd z.2.2 (by assumption)) | omega)])
            · try simp (disch := omega) only [hs_same, hs_ne, fl_in, fl_ne, cp_inn, cp_nee]
              exact v1 p a b (by omega)
          · intro p a b
            try simp (disch := omega) only [hs_same, hs_ne, fl_in, fl_ne, cp_inn, cp_nee]
            exact v2 p (by omega) b
          · have := ci_up (pa := (h0 (w + 29))) (lv := (h0 (r + 1))) (q := q) (i := i) (by omega)
            first
              | (rw [if_pos (by assumption)] at this; omega)
              | (rw [if_neg (by assumption)] at this; omega)
set_option maxRecDepth 100000 in
set_option maxHeartbeats 4000000 in
theorem lp_X5_pti1  {h0 : PH} (hd : 2 ≤ d) (A : isO nN r 4) (hw0 : h0 r 14 = w) (W : isO nN w 5) (p0 : 0 ≤ h0 (w + 14) 1) (p9 : h0 (w + 14) 1 ≤ 12) {q : Int} (q0 : 0 ≤ q) (q1 : q < h0 (w + 14) 1) (hq : 0 ≤ h0 (r + 46) q) (k : ∀ h' : PH, G h' → (∀ x y : Int, ¬ x = r + 46 → h' x y = h0 x y) → (∀ p : Int, 0 ≤ p → p < h0 (w + 14) 1 → h' (r + 46) p = ds_ (h0 (w + 14) 1) (h0 (w + 29)) (h0 (r + 1)) (h0 (r + 46)) q p) → Q.1 none nN h') (hbq : h0 (r + 46) q ≤ 1000000) (hG : G h0) : ∀ (m : Nat) (i acc : Int), (q + 1 ≤ i) → (i + m = h0 (w + 14) 1) → (acc = ci__ (h0 (w + 29)) (h0 (r + 1)) q (q + 1) (i - q - 1).toNat) → S_ MX5_passToIssue d bc bs Q 6 [(2, r), (0, q), (0, acc), (0, i), (9, 0), (9, 0)] [] nN h0 := by
  intro m
  induction m with
  | zero =>
    intro i acc i0 i1 eacc
    have hwv := io_of_5 W
    have hrv := io_of_4 A
    have hwr : w + 36 < r := by omega
    clear hwv hrv
    have hw := hw0
    have hnn := ci_nn (h0 (w + 29)) (h0 (r + 1)) q (q + 1) (i - q - 1).toNat
    have hbb := ci_bd (h0 (w + 29)) (h0 (r + 1)) q (q + 1) (i - q - 1).toNat
    refine s_iload_n dX5_passToIssue_6 rfl ?_
    refine s_aload_n dX5_passToIssue_7 rfl ?_
    refine s_getr dX5_passToIssue_8 fl_X5_46 kl_4 (by decide) rfl A (z := 14) rfl (by first | exact hw | (simp (disch := omega) only [hs_same, hs_ne, fl_in, fl_ne, cp_inn, cp_nee]; exact hw)) (W).1 ?_
    refine s_getr dX5_passToIssue_11 fl_X5_107 kl_5 (by decide) rfl W (z := 3) rfl (rf_5_3 hG.1 W) (rk_5_3 W).1 ?_
    refine s_geti dX5_passToIssue_14 fl_X5_111 kl_2 (by decide) rfl (rk_5_3 W) (z := 1) rfl ?_
    refine s_icmp_ge (tgt := 43) dX5_passToIssue_17 (by decide) (by first | exact hG.2 _ _ | exact b01_in _ | assumption | exact ⟨by omega, by omega⟩) (by first | exact hG.2 _ _ | exact b01_in _ | assumption | exact ⟨by omega, by omega⟩) (fun c1 => ?_) (fun c1 => ?_)
    · refine s_iload_n dX5_passToIssue_43 rfl ?_
      refine s_if_ne (tgt := 48) dX5_passToIssue_44 (by decide) (by first | exact hG.2 _ _ | exact b01_in _ | assumption | exact ⟨by omega, by omega⟩) (fun c2 => ?_) (fun c2 => ?_)
      · refine s_aload_n dX5_passToIssue_48 rfl ?_
        refine s_getr dX5_passToIssue_49 fl_X5_43 kl_4 (by decide) rfl A (z := 18) rfl (rf_4_18 hG.1 A) (rk_4_18 A).1 ?_
        refine s_iload_n dX5_passToIssue_52 rfl ?_
        refine s_iaload dX5_passToIssue_53 (rk_4_18 A) (by omega) (by omega) ?_
        refine s_iload_n dX5_passToIssue_54 rfl ?_
        refine s_idiv dX5_passToIssue_55 (by first | exact hG.2 _ _ | exact b01_in _ | assumption | exact ⟨by omega, by omega⟩) (by first | exact hG.2 _ _ | exact b01_in _ | assumption | exact ⟨by omega, by omega⟩) (by omega) (by omega) ?_
        refine s_istore_n dX5_passToIssue_56 (by decide) rfl (L' := [_, _, _, _, _, _]) rfl ?_
        refine s_aload_n dX5_passToIssue_57 rfl ?_
        refine s_getr dX5_passToIssue_58 fl_X5_43 kl_4 (by decide) rfl A (z := 18) rfl (rf_4_18 hG.1 A) (rk_4_18 A).1 ?_
        refine s_iload_n dX5_passToIssue_61 rfl ?_
        refine s_iaload dX5_passToIssue_62 (rk_4_18 A) (by omega) (by omega) ?_
        refine s_iload_n dX5_passToIssue_63 rfl ?_
        refine s_irem dX5_passToIssue_64 (by first | exact hG.2 _ _ | exact b01_in _ | assumption | exact ⟨by omega, by omega⟩) (by first | exact hG.2 _ _ | exact b01_in _ | assumption | exact ⟨by omega, by omega⟩) (by omega) (by omega) ?_
        refine s_istore dX5_passToIssue_65 (by decide) rfl (L' := [_, _, _, _, _, _]) rfl ?_
        refine s_iload_n dX5_passToIssue_67 rfl ?_
        refine s_iconst dX5_passToIssue_68 ?_
        refine s_iadd dX5_passToIssue_69 ?_
        refine s_istore dX5_passToIssue_70 (by decide) rfl (L' := [_, _, _, _, _, _]) rfl ?_
        have e7 : i = h0 (w + 14) 1 := by omega
        have eac : acc = ci__ (h0 (w + 29)) (h0 (r + 1)) q (q + 1) (h0 (w + 14) 1 - 1 - q).toNat := by rw [eacc, e7, show (h0 (w + 14) 1 - q - 1).toNat = (h0 (w + 14) 1 - 1 - q).toNat by omega]
        subst eac
        exact lp_X5_pti2 hd A hw0 W p0 p9 q0 q1 hq k (hG.2 _ _) hbq rfl (h0 (w + 14) 1 - q - 1).toNat (q + 1) _ h0 hG (by omega) (by omega) (fun _ _ _ => rfl) (fun p a b c => by unfold ds_; rw [if_neg (by omega)]) (fun _ _ _ => rfl) (by rw [show (q + 1 - q - 1).toNat = 0 by omega]; simp [ci__, sumI])
      · have e7 : i = h0 (w + 14) 1 := by omega
        refine s_return dX5_passToIssue_47 rfl (k h0 hG (fun _ _ _ => rfl) (fun p a b => ?_))
        unfold ds_
        rw [if_neg]
        intro z
        have := ci_ge (pa := (h0 (w + 29))) (lv := (h0 (r + 1))) (q := q) (a := q + 1) (p := p) (n := (i - q - 1).toNat) z.2.2 (by omega) (by omega)
        omega
    · exact absurd c1 (by omega)
  | succ m ih =>
    intro i acc i0 i1 eacc
    have hwv := io_of_5 W
    have hrv := io_of_4 A
    have hwr : w + 36 < r := by omega
    clear hwv hrv
    have hw := hw0
    have hnn := ci_nn (h0 (w + 29)) (h0 (r + 1)) q (q + 1) (i - q - 1).toNat
    have hbb := ci_bd (h0 (w + 29)) (h0 (r + 1)) q (q + 1) (i - q - 1).toNat
    refine s_iload_n dX5_passToIssue_6 rfl ?_
    refine s_aload_n dX5_passToIssue_7 rfl ?_
    refine s_getr dX5_passToIssue_8 fl_X5_46 kl_4 (by decide) rfl A (z := 14) rfl (by first | exact hw | (simp (disch := omega) only [hs_same, hs_ne, fl_in, fl_ne, cp_inn, cp_nee]; exact hw)) (W).1 ?_
    refine s_getr dX5_passToIssue_11 fl_X5_107 kl_5 (by decide) rfl W (z := 3) rfl (rf_5_3 hG.1 W) (rk_5_3 W).1 ?_
    refine s_geti dX5_passToIssue_14 fl_X5_111 kl_2 (by decide) rfl (rk_5_3 W) (z := 1) rfl ?_
    refine s_icmp_ge (tgt := 43) dX5_passToIssue_17 (by decide) (by first | exact hG.2 _ _ | exact b01_in _ | assumption | exact ⟨by omega, by omega⟩) (by first | exact hG.2 _ _ | exact b01_in _ | assumption | exact ⟨by omega, by omega⟩) (fun c1 => ?_) (fun c1 => ?_)
    · exact absurd c1 (by omega)
    · refine s_iload_n dX5_passToIssue_20 rfl ?_
      refine s_aload_n dX5_passToIssue_21 rfl ?_
      refine s_iload_n dX5_passToIssue_22 rfl ?_
      refine s_iload_n dX5_passToIssue_23 rfl ?_
      refine s_callV (d' := d - 1) (bc' := 0) (bs' := 0) (as := [_, _]) dX5_passToIssue_24 vf_X5_218 (dd_ (by omega) (by decide)) ⟨Nat.zero_le _, Nat.zero_le _⟩ rfl rfl (Nat.le_of_ble_eq_true rfl) kl_4 rfl A ?_
      refine c_X5_isLivingIssue A hG hw0 W (by omega) (by omega) ⟨by omega, by omega⟩ ?_
      refine s_if_eq (tgt := 34) dX5_passToIssue_27 (by decide) (by first | exact hG.2 _ _ | exact b01_in _ | assumption | exact ⟨by omega, by omega⟩) (fun c2 => ?_) (fun c2 => ?_)
      · have c2 := b01_0.mp c2
        refine s_iconst dX5_passToIssue_34 ?_
        refine s_iadd dX5_passToIssue_35 ?_
        refine s_istore_n dX5_passToIssue_36 (by decide) rfl (L' := [_, _, _, _, _, _]) rfl ?_
        refine s_iinc dX5_passToIssue_37 rfl (by decide) rfl (L' := [_, _, _, _, _, _]) rfl ?_
        refine s_goto (tgt := 6) dX5_passToIssue_40 (by decide) ?_
        refine ih (i + 1) _ (by omega) (by omega) ?_
        have := ci_up (pa := (h0 (w + 29))) (lv := (h0 (r + 1))) (q := q) (i := i) (by omega)
        first
          | (rw [if_pos (by assumption)] at this; omega)
          | (rw [if_neg (by assumption)] at this; omega)
      · have c2 := b01_n.mp c2
        refine s_iconst dX5_passToIssue_30 ?_
        refine s_goto (tgt := 35) dX5_passToIssue_31 (by decide) ?_
        refine s_iadd dX5_passToIssue_35 ?_
        refine s_istore_n dX5_passToIssue_36 (by decide) rfl (L' := [_, _, _, _, _, _]) rfl ?_
        refine s_iinc dX5_passToIssue_37 rfl (by decide) rfl (L' := [_, _, _, _, _, _]) rfl ?_
        refine s_goto (tgt := 6) dX5_passToIssue_40 (by decide) ?_
        refine ih (i + 1) _ (by omega) (by omega) ?_
        have := ci_up (pa := (h0 (w + 29))) (lv := (h0 (r + 1))) (q := q) (i := i) (by omega)
        first
          | (rw [if_pos (by assumption)] at this; omega)
          | (rw [if_neg (by assumption)] at this; omega)
set_option maxRecDepth 100000 in
set_option maxHeartbeats 4000000 in
theorem c_X5_passToIssue  {h0 : PH} (hd : 2 ≤ d) (A : isO nN r 4) (hw0 : h0 r 14 = w) (W : isO nN w 5) (p0 : 0 ≤ h0 (w + 14) 1) (p9 : h0 (w + 14) 1 ≤ 12) {q : Int} (q0 : 0 ≤ q) (q1 : q < h0 (w + 14) 1) (hq : 0 ≤ h0 (r + 46) q) (k : ∀ h' : PH, G h' → (∀ x y : Int, ¬ x = r + 46 → h' x y = h0 x y) → (∀ p : Int, 0 ≤ p → p < h0 (w + 14) 1 → h' (r + 46) p = ds_ (h0 (w + 14) 1) (h0 (w + 29)) (h0 (r + 1)) (h0 (r + 46)) q p) → Q.1 none nN h') (hbq : h0 (r + 46) q ≤ 1000000) (hG : G h0)  : Cl_ yX5_passToIssue MX5_passToIssue d bc bs [(2, r), (0, q)] nN h0 Q := by
  refine s_enter pn_X5 rfl (Nat.le_of_ble_eq_true rfl) (L := [(2, _), (0, _), (9, 0), (9, 0), (9, 0), (9, 0)]) rfl ?_
  refine s_iconst dX5_passToIssue_0 ?_
  refine s_istore_n dX5_passToIssue_1 (by decide) rfl (L' := [_, _, _, _, _, _]) rfl ?_
  refine s_iload_n dX5_passToIssue_2 rfl ?_
  refine s_iconst dX5_passToIssue_3 ?_
  refine s_iadd dX5_passToIssue_4 ?_
  refine s_istore_n dX5_passToIssue_5 (by decide) rfl (L' := [_, _, _, _, _, _]) rfl ?_
  exact lp_X5_pti1 hd A hw0 W p0 p9 q0 q1 hq k hbq hG (h0 (w + 14) 1 - q - 1).toNat (q + 1) 0 (by omega) (by omega) (by rw [show (q + 1 - q - 1).toNat = 0 by omega]; simp [ci__, sumI])
end X5I
