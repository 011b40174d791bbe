/-! WillHouse$Reckoning, what writes: the rest parted, what is passed on -/
section X5H
variable {d bc bs : Nat} {Q : PQ} {h : PH} {r w f : Int}
set_option maxRecDepth 100000 in
set_option maxHeartbeats 4000000 in
theorem lp_X5_pr2 {h1 : PH} {acc : Int} (A : isO nN r 4) (hw1 : h1 r 14 = w) (W : isO nN w 5) (g0 : 0 ≤ h1 w 7) (g9 : h1 w 7 ≤ 12) (q : ∀ h' : PH, G h' → (∀ x y : Int, ¬ (r + 5 ≤ x ∧ x ≤ r + 16 ∧ y = 6) → h' x y = h1 x y) → (∀ g : Int, 0 ≤ g → g < h1 w 7 → h' (r + 4 + 1 + g) 6 = h1 (r + 17 + 1 + g) 6) → Q.1 none nN h') : ∀ (m : Nat) (i : Int) (h : PH), (G h) → (0 ≤ i) → (i + m = h1 w 7) → (∀ x y : Int, ¬ (r + 5 ≤ x ∧ x ≤ r + 16 ∧ y = 6) → h x y = h1 x y) → (∀ g : Int, 0 ≤ g → g < i → h (r + 4 + 1 + g) 6 = h1 (r + 17 + 1 + g) 6) → S_ MX5_partRest d bc bs Q 126 [(2, r), (0, acc), (0, i)] [] nN h := by
  intro m
  induction m with
  | zero =>
    intro i h hG i0 i1 fr v1
    have hwv := io_of_5 W
    have hrv := io_of_4 A
    have hwr : w + 36 < r := by omega
    clear hwv hrv
    have hw : h r 14 = w := by rw [fr r 14 (by omega)]; exact hw1
    have en := fr w 7 (by omega)
    refine s_iload_n dX5_partRest_126 rfl ?_
    refine s_aload_n dX5_partRest_127 rfl ?_
    refine s_getr dX5_partRest_128 fl_X5_46 kl_4 (by decide) rfl A (z := 14) rfl (by first | exact hw | (simp (disch := omega) only [hs_same, hs_ne, fl_in, fl_ne, cp_inn, cp_nee]; exact hw)) (W).1 ?_
    refine s_geti dX5_partRest_131 fl_X5_63 kl_5 (by decide) rfl W (z := 7) rfl ?_
    refine s_icmp_ge (tgt := 161) dX5_partRest_134 (by decide) (by first | exact hG.2 _ _ | exact b01_in _ | assumption | exact ⟨by omega, by omega⟩) (by first | exact hG.2 _ _ | exact b01_in _ | assumption | exact ⟨by omega, by omega⟩) (fun c1 => ?_) (fun c1 => ?_)
    · exact s_return dX5_partRest_161 rfl (q _ hG fr (fun g a b => v1 g a (by omega)))
    · exact absurd c1 (by omega)
  | succ m ih =>
    intro i h hG i0 i1 fr v1
    have hwv := io_of_5 W
    have hrv := io_of_4 A
    have hwr : w + 36 < r := by omega
    clear hwv hrv
    have hw : h r 14 = w := by rw [fr r 14 (by omega)]; exact hw1
    have en := fr w 7 (by omega)
    refine s_iload_n dX5_partRest_126 rfl ?_
    refine s_aload_n dX5_partRest_127 rfl ?_
    refine s_getr dX5_partRest_128 fl_X5_46 kl_4 (by decide) rfl A (z := 14) rfl (by first | exact hw | (simp (disch := omega) only [hs_same, hs_ne, fl_in, fl_ne, cp_inn, cp_nee]; exact hw)) (W).1 ?_
    refine s_geti dX5_partRest_131 fl_X5_63 kl_5 (by decide) rfl W (z := 7) rfl ?_
    refine s_icmp_ge (tgt := 161) dX5_partRest_134 (by decide) (by first | exact hG.2 _ _ | exact b01_in _ | assumption | exact ⟨by omega, by omega⟩) (by first | exact hG.2 _ _ | exact b01_in _ | assumption | exact ⟨by omega, by omega⟩) (fun c1 => ?_) (fun c1 => ?_)
    · exact absurd c1 (by omega)
    · refine s_aload_n dX5_partRest_137 rfl ?_
      refine s_getr dX5_partRest_138 fl_X5_24 kl_4 (by decide) rfl A (z := 3) rfl (rf_4_3 hG.1 A) (rk_4_3 A).1 ?_
      refine s_iload_n dX5_partRest_141 rfl ?_
      refine s_aaload4 dX5_partRest_142 (rk_4_3 A) (by omega) (by omega) (rw_4_3 hG.1 A (by omega) (by omega)) (rx_4_3 A (by omega) (by omega)).1 ?_
      refine s_bipush dX5_partRest_143 (by decide) ?_
      refine s_aload_n dX5_partRest_145 rfl ?_
      refine s_getr dX5_partRest_146 fl_X5_27 kl_4 (by decide) rfl A (z := 4) rfl (rf_4_4 hG.1 A) (rk_4_4 A).1 ?_
      refine s_iload_n dX5_partRest_149 rfl ?_
      refine s_aaload4 dX5_partRest_150 (rk_4_4 A) (by omega) (by omega) (rw_4_4 hG.1 A (by omega) (by omega)) (rx_4_4 A (by omega) (by omega)).1 ?_
      refine s_bipush dX5_partRest_151 (by decide) ?_
      refine s_iaload dX5_partRest_153 (rx_4_4 A (by omega) (by omega)) (by omega) (by omega) ?_
      refine s_iastoreG dX5_partRest_154 (rx_4_3 A (by omega) (by omega)) (by omega) (by omega) hG (by first | exact hG.2 _ _ | exact b01_in _ | assumption | exact ⟨by omega, by omega⟩) (fun hG1 => ?_)
      refine s_iinc dX5_partRest_155 rfl (by decide) rfl (L' := [_, _, _]) rfl ?_
      refine s_goto (tgt := 126) dX5_partRest_158 (by decide) ?_
      refine ih (i + 1) _ hG1 (by omega) (by omega) ?_ ?_
      · intro x y hx
        simp (disch := omega) only [hs_same, hs_ne, fl_in, fl_ne, cp_inn, cp_nee]
        exact fr x y hx
      · intro g a b
        by_cases e : g = i
        · subst e
          simp (disch := omega) only [hs_same, hs_ne, fl_in, fl_ne, cp_inn, cp_nee]
          exact fr _ _ (by omega)
        · simp (disch := omega) only [hs_same, hs_ne, fl_in, fl_ne, cp_inn, cp_nee]
          exact v1 g a (by omega)
set_option maxRecDepth 100000 in
set_option maxHeartbeats 4000000 in
theorem lp_X5_partRest  {h0 : PH} (hd : 3 ≤ d) (A : isO nN r 4) (hw0 : h0 r 14 = w) (W : isO nN w 5) (g0 : 0 ≤ h0 w 7) (g9 : h0 w 7 ≤ 12) (r0 : 0 ≤ h0 r 9) (r9 : h0 r 9 ≤ 1000000) (hsh : ∀ g : Int, 0 ≤ g → g < h0 w 7 → h0 (w + 32) g = 3 → 1 ≤ h0 (w + 35) g ∧ h0 (w + 35) g ≤ 9) (hz : ∀ g : Int, 0 ≤ g → g < h0 w 7 → h0 (r + 17 + 1 + g) 6 = 0 ∧ h0 (r + 4 + 1 + g) 6 = 0) (hz10 : h0 r 10 = 0) (hz11 : h0 r 11 = 0) (q : ∀ h' : PH, G h' → (∀ x y : Int, ¬ (x = r + 44 ∨ x = r + 45 ∨ (r + 18 ≤ x ∧ x ≤ r + 29 ∧ y = 6) ∨ (r + 5 ≤ x ∧ x ≤ r + 16 ∧ y = 6) ∨ (x = r ∧ (y = 10 ∨ y = 11))) → h' x y = h0 x y) → (∀ g : Int, 0 ≤ g → g < h0 w 7 → h' (r + 17 + 1 + g) 6 = pt_ (wr_ (h0 (w + 32)) (h0 (r + 2)) (h0 (w + 35))) (h0 w 7) (h0 r 9) g ∧ h' (r + 4 + 1 + g) 6 = pt_ (wr_ (h0 (w + 32)) (h0 (r + 2)) (h0 (w + 35))) (h0 w 7) (h0 r 9) g) → h' r 10 = (if sumI (wr_ (h0 (w + 32)) (h0 (r + 2)) (h0 (w + 35))) 0 (h0 w 7).toNat = 0 ∧ 0 < h0 r 13 then h0 r 9 else 0) → h' r 11 = (if sumI (wr_ (h0 (w + 32)) (h0 (r + 2)) (h0 (w + 35))) 0 (h0 w 7).toNat = 0 ∧ ¬ 0 < h0 r 13 then h0 r 9 else 0) → Q.1 none nN h') : ∀ (m : Nat) (i acc : Int) (h : PH), (G h) → (0 ≤ i) → (i + m = h0 w 7) → (∀ x y : Int, ¬ x = r + 44 → h x y = h0 x y) → (∀ g : Int, 0 ≤ g → g < i → h (r + 44) g = wr_ (h0 (w + 32)) (h0 (r + 2)) (h0 (w + 35)) g) → (acc = sumI (wr_ (h0 (w + 32)) (h0 (r + 2)) (h0 (w + 35))) 0 i.toNat) → (0 ≤ acc ∧ acc ≤ 9 * i) → S_ MX5_partRest d bc bs Q 4 [(2, r), (0, acc), (0, i)] [] nN h := by
  intro m
  induction m with
  | zero =>
    intro i acc h hG i0 i1 fr v1 eacc bacc
    have hwv := io_of_5 W
    have hrv := io_of_4 A
    have hwr : w + 36 < r := by omega
    clear hwv hrv
    have hw : h r 14 = w := by rw [fr r 14 (by omega)]; exact hw0
    have en := fr w 7 (by omega)
    have ek := fr (w + 32) i (by omega)
    have el := fr (r + 2) i (by omega)
    have ea := fr (w + 35) i (by omega)
    have e13 := fr r 13 (by omega)
    have e9 := fr r 9 (by omega)
    refine s_iload_n dX5_partRest_4 rfl ?_
    refine s_aload_n dX5_partRest_5 rfl ?_
    refine s_getr dX5_partRest_6 fl_X5_46 kl_4 (by decide) rfl A (z := 14) rfl (by first | exact hw | (simp (disch := omega) only [hs_same, hs_ne, fl_in, fl_ne, cp_inn, cp_nee]; exact hw)) (W).1 ?_
    refine s_geti dX5_partRest_9 fl_X5_63 kl_5 (by decide) rfl W (z := 7) rfl ?_
    refine s_icmp_ge (tgt := 71) dX5_partRest_12 (by decide) (by first | exact hG.2 _ _ | exact b01_in _ | assumption | exact ⟨by omega, by omega⟩) (by first | exact hG.2 _ _ | exact b01_in _ | assumption | exact ⟨by omega, by omega⟩) (fun c1 => ?_) (fun c1 => ?_)
    · refine s_iload_n dX5_partRest_71 rfl ?_
      refine s_if_ne (tgt := 114) dX5_partRest_72 (by decide) (by first | exact hG.2 _ _ | exact b01_in _ | assumption | exact ⟨by omega, by omega⟩) (fun c2 => ?_) (fun c2 => ?_)
      · refine s_aload_n dX5_partRest_114 rfl ?_
        refine s_bipush dX5_partRest_115 (by decide) ?_
        refine s_aload_n dX5_partRest_117 rfl ?_
        refine s_geti dX5_partRest_118 fl_X5_192 kl_4 (by decide) rfl A (z := 9) rfl ?_
        refine s_callV (d' := d - 1) (bc' := 0) (bs' := 0) (as := [_, _]) dX5_partRest_121 vf_X5_204 (dd_ (by omega) (by decide)) ⟨Nat.zero_le _, Nat.zero_le _⟩ rfl rfl (Nat.le_of_ble_eq_true rfl) kl_4 rfl A ?_
        refine c_X5_parts (by omega) A hw W (by omega) (by omega) (by omega) (by omega) (by omega) (by omega) (fun g a b => ?_) hG (fun g a b => ?_) (fun h2 hG1 fr2 ev2 => ?_)
        · rw [v1 g a (by omega)]
          have := hsh g a (by omega)
          unfold wr_
          split <;> omega
        · rw [fr _ _ (by omega)]
          exact (hz g a (by omega)).1
        refine s_iconst dX5_partRest_124 ?_
        refine s_istore_n dX5_partRest_125 (by decide) rfl (L' := [_, _, _]) rfl ?_
        have e27 : h2 w 7 = h0 w 7 := by rw [fr2 w 7 (by omega)]; exact en
        refine lp_X5_pr2 A (by rw [fr2 r 14 (by omega)]; exact hw) W (by omega) (by omega) (fun h3 hG3 fr3 ev3 => ?_) (h0 w 7).toNat 0 h2 hG1 (by omega) (by omega) (fun _ _ _ => rfl) (fun g a b => by omega)
        have ens : ¬ sumI (wr_ (h0 (w + 32)) (h0 (r + 2)) (h0 (w + 35))) 0 (h0 w 7).toNat = 0 := by rw [show h0 w 7 = i by omega, ← eacc]; exact c2
        refine q h3 hG3 ?_ ?_ ?_ ?_
        · intro x y hx
          rw [fr3 x y (by omega), fr2 x y (by omega)]
          exact fr x y (by omega)
        · intro g a b
          have e3 : h2 (r + 17 + 1 + g) 6 = pt_ (wr_ (h0 (w + 32)) (h0 (r + 2)) (h0 (w + 35))) (h0 w 7) (h0 r 9) g := by
            rw [ev2 g a (by omega), en, e9]
            exact pt_congr (fun x x0 x1 => v1 x x0 (by omega)) g a b
          rw [fr3 _ _ (by omega), ev3 g a (by omega)]
          exact ⟨e3, e3⟩
        · rw [fr3 _ _ (by omega), fr2 _ _ (by omega), fr _ _ (by omega), hz10, if_neg (fun z => ens z.1)]
        · rw [fr3 _ _ (by omega), fr2 _ _ (by omega), fr _ _ (by omega), hz11, if_neg (fun z => ens z.1)]
      · refine s_aload_n dX5_partRest_75 rfl ?_
        refine s_aload_n dX5_partRest_76 rfl ?_
        refine s_geti dX5_partRest_77 fl_X5_104 kl_4 (by decide) rfl A (z := 13) rfl ?_
        refine s_if_le (tgt := 90) dX5_partRest_80 (by decide) (by first | exact hG.2 _ _ | exact b01_in _ | assumption | exact ⟨by omega, by omega⟩) (fun c3 => ?_) (fun c3 => ?_)
        · refine s_iconst dX5_partRest_90 ?_
          refine s_putiG 10 dX5_partRest_91 fl_X5_95 kl_4 (by decide) rfl rfl A (z := 10) rfl (by decide +kernel) hG (by first | exact hG.2 _ _ | exact b01_in _ | assumption | exact ⟨by omega, by omega⟩) (fun hG2 => ?_)
          refine s_aload_n dX5_partRest_94 rfl ?_
          refine s_aload_n dX5_partRest_95 rfl ?_
          refine s_geti dX5_partRest_96 fl_X5_104 kl_4 (by decide) rfl A (z := 13) rfl ?_
          try simp (disch := omega) only [hs_same, hs_ne, fl_in, fl_ne, cp_inn, cp_nee]
          refine s_if_le (tgt := 106) dX5_partRest_99 (by decide) (by first | exact hG2.2 _ _ | exact hG.2 _ _ | exact b01_in _ | assumption | exact ⟨by omega, by omega⟩) (fun c4 => ?_) (fun c4 => ?_)
          · refine s_aload_n dX5_partRest_106 rfl ?_
            refine s_geti dX5_partRest_107 fl_X5_192 kl_4 (by decide) rfl A (z := 9) rfl ?_
            try simp (disch := omega) only [hs_same, hs_ne, fl_in, fl_ne, cp_inn, cp_nee]
            refine s_putiG 11 dX5_partRest_110 fl_X5_98 kl_4 (by decide) rfl rfl A (z := 11) rfl (by decide +kernel) hG2 (by first | exact hG2.2 _ _ | exact hG.2 _ _ | exact b01_in _ | assumption | exact ⟨by omega, by omega⟩) (fun hG3 => ?_)
            first
              | (exfalso; omega)
              | (refine s_return dX5_partRest_113 rfl (q _ hG3 ?_ ?_ ?_ ?_)
                 · intro x y hx
                   simp (disch := omega) only [hs_same, hs_ne, fl_in, fl_ne, cp_inn, cp_nee]
                   exact fr x y (by omega)
                 · intro g a b
                   simp (disch := omega) only [hs_same, hs_ne, fl_in, fl_ne, cp_inn, cp_nee]
                   rw [fr _ _ (by omega), fr _ _ (by omega), (hz g a b).1, (hz g a b).2]
                   unfold pt_
                   rw [if_pos (by rw [show h0 w 7 = i by omega, ← eacc]; omega)]
                   exact ⟨rfl, rfl⟩
                 · simp (disch := omega) only [hs_same, hs_ne, fl_in, fl_ne, cp_inn, cp_nee]
                   first | (rw [if_pos ⟨(by rw [show h0 w 7 = i by omega, ← eacc]; omega), (by omega)⟩]; omega) | (rw [if_neg (fun z => by omega)]; try omega)
                 · simp (disch := omega) only [hs_same, hs_ne, fl_in, fl_ne, cp_inn, cp_nee]
                   first | (rw [if_pos ⟨(by rw [show h0 w 7 = i by omega, ← eacc]; omega), (by omega)⟩]; omega) | (rw [if_neg (fun z => by omega)]; try omega))
          · refine s_iconst dX5_partRest_102 ?_
            refine s_goto (tgt := 110) dX5_partRest_103 (by decide) ?_
            refine s_putiG 11 dX5_partRest_110 fl_X5_98 kl_4 (by decide) rfl rfl A (z := 11) rfl (by decide +kernel) hG2 (by first | exact hG2.2 _ _ | exact hG.2 _ _ | exact b01_in _ | assumption | exact ⟨by omega, by omega⟩) (fun hG4 => ?_)
            first
              | (exfalso; omega)
              | (refine s_return dX5_partRest_113 rfl (q _ hG4 ?_ ?_ ?_ ?_)
                 · intro x y hx
                   simp (disch := omega) only [hs_same, hs_ne, fl_in, fl_ne, cp_inn, cp_nee]
                   exact fr x y (by omega)
                 · intro g a b
                   simp (disch := omega) only [hs_same, hs_ne, fl_in, fl_ne, cp_inn, cp_nee]
                   rw [fr _ _ (by omega), fr _ _ (by omega), (hz g a b).1, (hz g a b).2]
                   unfold pt_
                   rw [if_pos (by rw [show h0 w 7 = i by omega, ← eacc]; omega)]
                   exact ⟨rfl, rfl⟩
                 · simp (disch := omega) only [hs_same, hs_ne, fl_in, fl_ne, cp_inn, cp_nee]
                   first | (rw [if_pos ⟨(by rw [show h0 w 7 = i by omega, ← eacc]; omega), (by omega)⟩]; omega) | (rw [if_neg (fun z => by omega)]; try omega)
                 · simp (disch := omega) only [hs_same, hs_ne, fl_in, fl_ne, cp_inn, cp_nee]
                   first | (rw [if_pos ⟨(by rw [show h0 w 7 = i by omega, ← eacc]; omega), (by omega)⟩]; omega) | (rw [if_neg (fun z => by omega)]; try omega))
        · refine s_aload_n dX5_partRest_83 rfl ?_
          refine s_geti dX5_partRest_84 fl_X5_192 kl_4 (by decide) rfl A (z := 9) rfl ?_
          refine s_goto (tgt := 91) dX5_partRest_87 (by decide) ?_
          refine s_putiG 10 dX5_partRest_91 fl_X5_95 kl_4 (by decide) rfl rfl A (z := 10) rfl (by decide +kernel) hG (by first | exact hG.2 _ _ | exact b01_in _ | assumption | exact ⟨by omega, by omega⟩) (fun hG5 => ?_)
          refine s_aload_n dX5_partRest_94 rfl ?_
          refine s_aload_n dX5_partRest_95 rfl ?_
          refine s_geti dX5_partRest_96 fl_X5_104 kl_4 (by decide) rfl A (z := 13) rfl ?_
          try simp (disch := omega) only [hs_same, hs_ne, fl_in, fl_ne, cp_inn, cp_nee]
          refine s_if_le (tgt := 106) dX5_partRest_99 (by decide) (by first | exact hG5.2 _ _ | exact hG.2 _ _ | exact b01_in _ | assumption | exact ⟨by omega, by omega⟩) (fun c5 => ?_) (fun c5 => ?_)
          · refine s_aload_n dX5_partRest_106 rfl ?_
            refine s_geti dX5_partRest_107 fl_X5_192 kl_4 (by decide) rfl A (z := 9) rfl ?_
            try simp (disch := omega) only [hs_same, hs_ne, fl_in, fl_ne, cp_inn, cp_nee]
            refine s_putiG 11 dX5_partRest_110 fl_X5_98 kl_4 (by decide) rfl rfl A (z := 11) rfl (by decide +kernel) hG5 (by first | exact hG5.2 _ _ | exact hG.2 _ _ | exact b01_in _ | assumption | exact ⟨by omega, by omega⟩) (fun hG6 => ?_)
            first
              | (exfalso; omega)
              | (refine s_return dX5_partRest_113 rfl (q _ hG6 ?_ ?_ ?_ ?_)
                 · intro x y hx
                   simp (disch := omega) only [hs_same, hs_ne, fl_in, fl_ne, cp_inn, cp_nee]
                   exact fr x y (by omega)
                 · intro g a b
                   simp (disch := omega) only [hs_same, hs_ne, fl_in, fl_ne, cp_inn, cp_nee]
                   rw [fr _ _ (by omega), fr _ _ (by omega), (hz g a b).1, (hz g a b).2]
                   unfold pt_
                   rw [if_pos (by rw [show h0 w 7 = i by omega, ← eacc]; omega)]
                   exact ⟨rfl, rfl⟩
                 · simp (disch := omega) only [hs_same, hs_ne, fl_in, fl_ne, cp_inn, cp_nee]
                   first | (rw [if_pos ⟨(by rw [show h0 w 7 = i by omega, ← eacc]; omega), (by omega)⟩]; omega) | (rw [if_neg (fun z => by omega)]; try omega)
                 · simp (disch := omega) only [hs_same, hs_ne, fl_in, fl_ne, cp_inn, cp_nee]
                   first | (rw [if_pos ⟨(by rw [show h0 w 7 = i by omega, ← eacc]; omega), (by omega)⟩]; omega) | (rw [if_neg (fun z => by omega)]; try omega))
          · refine s_iconst dX5_partRest_102 ?_
            refine s_goto (tgt := 110) dX5_partRest_103 (by decide) ?_
            refine s_putiG 11 dX5_partRest_110 fl_X5_98 kl_4 (by decide) rfl rfl A (z := 11) rfl (by decide +kernel) hG5 (by first | exact hG5.2 _ _ | exact hG.2 _ _ | exact b01_in _ | assumption | exact ⟨by omega, by omega⟩) (fun hG7 => ?_)
            first
              | (exfalso; omega)
              | (refine s_return dX5_partRest_113 rfl (q _ hG7 ?_ ?_ ?_ ?_)
                 · intro x y hx
                   simp (disch := omega) only [hs_same, hs_ne, fl_in, fl_ne, cp_inn, cp_nee]
                   exact fr x y (by omega)
                 · intro g a b
                   simp (disch := omega) only [hs_same, hs_ne, fl_in, fl_ne, cp_inn, cp_nee]
                   rw [fr _ _ (by omega), fr _ _ (by omega), (hz g a b).1, (hz g a b).2]
                   unfold pt_
                   rw [if_pos (by rw [show h0 w 7 = i by omega, ← eacc]; omega)]
                   exact ⟨rfl, rfl⟩
                 · simp (disch := omega) only [hs_same, hs_ne, fl_in, fl_ne, cp_inn, cp_nee]
                   first | (rw [if_pos ⟨(by rw [show h0 w 7 = i by omega, ← eacc]; omega), (by omega)⟩]; omega) | (rw [if_neg (fun z => by omega)]; try omega)
                 · simp (disch := omega) only [hs_same, hs_ne, fl_in, fl_ne, cp_inn, cp_nee]
                   first | (rw [if_pos ⟨(by rw [show h0 w 7 = i by omega, ← eacc]; omega), (by omega)⟩]; omega) | (rw [if_neg (fun z => by omega)]; try omega))
    · exact absurd c1 (by omega)
  | succ m ih =>
    intro i acc h hG i0 i1 fr v1 eacc bacc
    have hwv := io_of_5 W
    have hrv := io_of_4 A
    have hwr : w + 36 < r := by omega
    clear hwv hrv
    have hw : h r 14 = w := by rw [fr r 14 (by omega)]; exact hw0
    have en := fr w 7 (by omega)
    have hs := hsh i (by omega) (by omega)
    have ek := fr (w + 32) i (by omega)
    have el := fr (r + 2) i (by omega)
    have ea := fr (w + 35) i (by omega)
    have e13 := fr r 13 (by omega)
    have e9 := fr r 9 (by omega)
    refine s_iload_n dX5_partRest_4 rfl ?_
    refine s_aload_n dX5_partRest_5 rfl ?_
    refine s_getr dX5_partRest_6 fl_X5_46 kl_4 (by decide) rfl A (z := 14) rfl (by first | exact hw | (simp (disch := omega) only [hs_same, hs_ne, fl_in, fl_ne, cp_inn, cp_nee]; exact hw)) (W).1 ?_
    refine s_geti dX5_partRest_9 fl_X5_63 kl_5 (by decide) rfl W (z := 7) rfl ?_
    refine s_icmp_ge (tgt := 71) dX5_partRest_12 (by decide) (by first | exact hG.2 _ _ | exact b01_in _ | assumption | exact ⟨by omega, by omega⟩) (by first | exact hG.2 _ _ | exact b01_in _ | assumption | exact ⟨by omega, by omega⟩) (fun c1 => ?_) (fun c1 => ?_)
    · exact absurd c1 (by omega)
    · refine s_aload_n dX5_partRest_15 rfl ?_
      refine s_getr dX5_partRest_16 fl_X5_36 kl_4 (by decide) rfl A (z := 16) rfl (rf_4_16 hG.1 A) (rk_4_16 A).1 ?_
      refine s_iload_n dX5_partRest_19 rfl ?_
      refine s_aload_n dX5_partRest_20 rfl ?_
      refine s_getr dX5_partRest_21 fl_X5_46 kl_4 (by decide) rfl A (z := 14) rfl (by first | exact hw | (simp (disch := omega) only [hs_same, hs_ne, fl_in, fl_ne, cp_inn, cp_nee]; exact hw)) (W).1 ?_
      refine s_getr dX5_partRest_24 fl_X5_161 kl_5 (by decide) rfl W (z := 8) rfl (rf_5_8 hG.1 W) (rk_5_8 W).1 ?_
      refine s_iload_n dX5_partRest_27 rfl ?_
      refine s_iaload dX5_partRest_28 (rk_5_8 W) (by omega) (by omega) ?_
      refine s_iconst dX5_partRest_29 ?_
      refine s_icmp_ne (tgt := 54) dX5_partRest_30 (by decide) (by first | exact hG.2 _ _ | exact b01_in _ | assumption | exact ⟨by omega, by omega⟩) (by first | exact hG.2 _ _ | exact b01_in _ | assumption | exact ⟨by omega, by omega⟩) (fun c2 => ?_) (fun c2 => ?_)
      · refine s_iconst dX5_partRest_54 ?_
        refine s_iastoreG dX5_partRest_55 (rk_4_16 A) (by omega) (by omega) hG (by first | exact hG.2 _ _ | exact b01_in _ | assumption | exact ⟨by omega, by omega⟩) (fun hG1 => ?_)
        refine s_iload_n dX5_partRest_56 rfl ?_
        refine s_aload_n dX5_partRest_57 rfl ?_
        refine s_getr dX5_partRest_58 fl_X5_36 kl_4 (by decide) rfl A (z := 16) rfl (rf_4_16 hG1.1 A) (rk_4_16 A).1 ?_
        refine s_iload_n dX5_partRest_61 rfl ?_
        refine s_iaload dX5_partRest_62 (rk_4_16 A) (by omega) (by omega) ?_
        try simp (disch := omega) only [hs_same, hs_ne, fl_in, fl_ne, cp_inn, cp_nee]
        refine s_iadd dX5_partRest_63 ?_
        refine s_istore_n dX5_partRest_64 (by decide) rfl (L' := [_, _, _]) rfl ?_
        refine s_iinc dX5_partRest_65 rfl (by decide) rfl (L' := [_, _, _]) rfl ?_
        refine s_goto (tgt := 4) dX5_partRest_68 (by decide) ?_
        refine ih (i + 1) _ _ hG1 (by omega) (by omega) ?_ ?_ ?_ ?_
        · intro x y hx
          simp (disch := omega) only [hs_same, hs_ne, fl_in, fl_ne, cp_inn, cp_nee]
          exact fr x y hx
        · intro g a b
          by_cases e : g = i
          · subst e
            simp (disch := omega) only [hs_same, hs_ne, fl_in, fl_ne, cp_inn, cp_nee]
            unfold wr_
            split <;> omega
          · simp (disch := omega) only [hs_same, hs_ne, fl_in, fl_ne, cp_inn, cp_nee]
            exact v1 g a (by omega)
        · rw [sumI_up _ i0, ← eacc]
          unfold wr_
          split <;> omega
        · omega
      · refine s_aload_n dX5_partRest_33 rfl ?_
        refine s_getr dX5_partRest_34 fl_X5_15 kl_4 (by decide) rfl A (z := 1) rfl (rf_4_1 hG.1 A) (rk_4_1 A).1 ?_
        refine s_iload_n dX5_partRest_37 rfl ?_
        refine s_baload2 dX5_partRest_38 (rk_4_1 A) (by omega) (by omega) ?_
        refine s_if_ne (tgt := 54) dX5_partRest_39 (by decide) (by first | exact hG.2 _ _ | exact b01_in _ | assumption | exact ⟨by omega, by omega⟩) (fun c3 => ?_) (fun c3 => ?_)
        · refine s_iconst dX5_partRest_54 ?_
          refine s_iastoreG dX5_partRest_55 (rk_4_16 A) (by omega) (by omega) hG (by first | exact hG.2 _ _ | exact b01_in _ | assumption | exact ⟨by omega, by omega⟩) (fun hG2 => ?_)
          refine s_iload_n dX5_partRest_56 rfl ?_
          refine s_aload_n dX5_partRest_57 rfl ?_
          refine s_getr dX5_partRest_58 fl_X5_36 kl_4 (by decide) rfl A (z := 16) rfl (rf_4_16 hG2.1 A) (rk_4_16 A).1 ?_
          refine s_iload_n dX5_partRest_61 rfl ?_
          refine s_iaload dX5_partRest_62 (rk_4_16 A) (by omega) (by omega) ?_
          try simp (disch := omega) only [hs_same, hs_ne, fl_in, fl_ne, cp_inn, cp_nee]
          refine s_iadd dX5_partRest_63 ?_
          refine s_istore_n dX5_partRest_64 (by decide) rfl (L' := [_, _, _]) rfl ?_
          refine s_iinc dX5_partRest_65 rfl (by decide) rfl (L' := [_, _, _]) rfl ?_
          refine s_goto (tgt := 4) dX5_partRest_68 (by decide) ?_
          refine ih (i + 1) _ _ hG2 (by omega) (by omega) ?_ ?_ ?_ ?_
          · intro x y hx
            simp (disch := omega) only [hs_same, hs_ne, fl_in, fl_ne, cp_inn, cp_nee]
            exact fr x y hx
          · intro g a b
            by_cases e : g = i
            · subst e
              simp (disch := omega) only [hs_same, hs_ne, fl_in, fl_ne, cp_inn, cp_nee]
              unfold wr_
              split <;> omega
            · simp (disch := omega) only [hs_same, hs_ne, fl_in, fl_ne, cp_inn, cp_nee]
              exact v1 g a (by omega)
          · rw [sumI_up _ i0, ← eacc]
            unfold wr_
            split <;> omega
          · omega
        · refine s_aload_n dX5_partRest_42 rfl ?_
          refine s_getr dX5_partRest_43 fl_X5_46 kl_4 (by decide) rfl A (z := 14) rfl (by first | exact hw | (simp (disch := omega) only [hs_same, hs_ne, fl_in, fl_ne, cp_inn, cp_nee]; exact hw)) (W).1 ?_
          refine s_getr dX5_partRest_46 fl_X5_174 kl_5 (by decide) rfl W (z := 11) rfl (rf_5_11 hG.1 W) (rk_5_11 W).1 ?_
          refine s_iload_n dX5_partRest_49 rfl ?_
          refine s_iaload dX5_partRest_50 (rk_5_11 W) (by omega) (by omega) ?_
          refine s_goto (tgt := 55) dX5_partRest_51 (by decide) ?_
          refine s_iastoreG dX5_partRest_55 (rk_4_16 A) (by omega) (by omega) hG (by first | exact hG.2 _ _ | exact b01_in _ | assumption | exact ⟨by omega, by omega⟩) (fun hG3 => ?_)
          refine s_iload_n dX5_partRest_56 rfl ?_
          refine s_aload_n dX5_partRest_57 rfl ?_
          refine s_getr dX5_partRest_58 fl_X5_36 kl_4 (by decide) rfl A (z := 16) rfl (rf_4_16 hG3.1 A) (rk_4_16 A).1 ?_
          refine s_iload_n dX5_partRest_61 rfl ?_
          refine s_iaload dX5_partRest_62 (rk_4_16 A) (by omega) (by omega) ?_
          try simp (disch := omega) only [hs_same, hs_ne, fl_in, fl_ne, cp_inn, cp_nee]
          refine s_iadd dX5_partRest_63 ?_
          refine s_istore_n dX5_partRest_64 (by decide) rfl (L' := [_, _, _]) rfl ?_
          refine s_iinc dX5_partRest_65 rfl (by decide) rfl (L' := [_, _, _]) rfl ?_
          refine s_goto (tgt := 4) dX5_partRest_68 (by decide) ?_
          refine ih (i + 1) _ _ hG3 (by omega) (by omega) ?_ ?_ ?_ ?_
          · intro x y hx
            simp (disch := omega) only [hs_same, hs_ne, fl_in, fl_ne, cp_inn, cp_nee]
            exact fr x y hx
          · intro g a b
            by_cases e : g = i
            · subst e
              simp (disch := omega) only [hs_same, hs_ne, fl_in, fl_ne, cp_inn, cp_nee]
              unfold wr_
              split <;> omega
            · simp (disch := omega) only [hs_same, hs_ne, fl_in, fl_ne, cp_inn, cp_nee]
              exact v1 g a (by omega)
          · rw [sumI_up _ i0, ← eacc]
            unfold wr_
            split <;> omega
          · omega
set_option maxRecDepth 100000 in
set_option maxHeartbeats 4000000 in
theorem c_X5_partRest  {h0 : PH} (hd : 3 ≤ d) (A : isO nN r 4) (hw0 : h0 r 14 = w) (W : isO nN w 5) (g0 : 0 ≤ h0 w 7) (g9 : h0 w 7 ≤ 12) (r0 : 0 ≤ h0 r 9) (r9 : h0 r 9 ≤ 1000000) (hsh : ∀ g : Int, 0 ≤ g → g < h0 w 7 → h0 (w + 32) g = 3 → 1 ≤ h0 (w + 35) g ∧ h0 (w + 35) g ≤ 9) (hz : ∀ g : Int, 0 ≤ g → g < h0 w 7 → h0 (r + 17 + 1 + g) 6 = 0 ∧ h0 (r + 4 + 1 + g) 6 = 0) (hz10 : h0 r 10 = 0) (hz11 : h0 r 11 = 0) (q : ∀ h' : PH, G h' → (∀ x y : Int, ¬ (x = r + 44 ∨ x = r + 45 ∨ (r + 18 ≤ x ∧ x ≤ r + 29 ∧ y = 6) ∨ (r + 5 ≤ x ∧ x ≤ r + 16 ∧ y = 6) ∨ (x = r ∧ (y = 10 ∨ y = 11))) → h' x y = h0 x y) → (∀ g : Int, 0 ≤ g → g < h0 w 7 → h' (r + 17 + 1 + g) 6 = pt_ (wr_ (h0 (w + 32)) (h0 (r + 2)) (h0 (w + 35))) (h0 w 7) (h0 r 9) g ∧ h' (r + 4 + 1 + g) 6 = pt_ (wr_ (h0 (w + 32)) (h0 (r + 2)) (h0 (w + 35))) (h0 w 7) (h0 r 9) g) → h' r 10 = (if sumI (wr_ (h0 (w + 32)) (h0 (r + 2)) (h0 (w + 35))) 0 (h0 w 7).toNat = 0 ∧ 0 < h0 r 13 then h0 r 9 else 0) → h' r 11 = (if sumI (wr_ (h0 (w + 32)) (h0 (r + 2)) (h0 (w + 35))) 0 (h0 w 7).toNat = 0 ∧ ¬ 0 < h0 r 13 then h0 r 9 else 0) → Q.1 none nN h') (hG : G h0)  : Cl_ yX5_partRest MX5_partRest d bc bs [(2, r)] nN h0 Q := by
  refine s_enter pn_X5 rfl (Nat.le_of_ble_eq_true rfl) (L := [(2, _), (9, 0), (9, 0)]) rfl ?_
  refine s_iconst dX5_partRest_0 ?_
  refine s_istore_n dX5_partRest_1 (by decide) rfl (L' := [_, _, _]) rfl ?_
  refine s_iconst dX5_partRest_2 ?_
  refine s_istore_n dX5_partRest_3 (by decide) rfl (L' := [_, _, _]) rfl ?_
  exact lp_X5_partRest hd A hw0 W g0 g9 r0 r9 hsh hz hz10 hz11 q (h0 w 7).toNat 0 0 h0 hG (by omega) (by omega) (fun _ _ _ => rfl) (fun g a b => by omega) rfl (by omega)
end X5H
