/-! WillHouse$Reckoning, what writes: stocks, the estate -/
section X5C
variable {d bc bs : Nat} {Q : PQ} {r w f : Int}
set_option maxRecDepth 100000 in
set_option maxHeartbeats 4000000 in
theorem lp_X5_lookAtStocks {h0 : PH} (hd : 3 ≤ d) (A : isO nN r 4) (W : isO nN w 5) (F : isO nN f 1) (hfr : f + 1 < r) (hw0 : h0 r 14 = w) (hf0 : h0 r 15 = f) (p0 : 0 ≤ h0 (w + 14) 1) (p9 : h0 (w + 14) 1 ≤ 12) (hpa : ∀ p : Int, 0 ≤ p → p < h0 (w + 14) 1 → -1 ≤ h0 (w + 29) p ∧ h0 (w + 29) p < p) (q : ∀ h' : PH, G h' → (∀ x y : Int, ¬ (x = r + 1 ∨ (x = r ∧ y = 13)) → h' x y = h0 x y) → liv_ (h0 (w + 14) 1) (h0 (w + 29)) (fun q => h0 (f + 1) (32 + q)) (h0 (w + 30)) (h' (r + 1)) (h' r 13) → (∀ p : Int, 0 ≤ p → p < h0 (w + 14) 1 → 0 ≤ h' (r + 1) p ∧ h' (r + 1) p ≤ 4096) → Q.1 none nN h') : ∀ (m : Nat) (i : Int) (h : PH) (b : Int), (G h) → (i + 1 = m) → (i < h0 (w + 14) 1) → (0 ≤ h r 13 ∧ h r 13 ≤ h0 (w + 14) 1 - 1 - i) → (∀ x y : Int, ¬ (x = r + 1 ∨ (x = r ∧ y = 13)) → h x y = h0 x y) → (stk_ (h0 (w + 14) 1) (h0 (w + 29)) (fun q => h0 (f + 1) (32 + q)) (h0 (w + 30)) i (h (r + 1)) (h r 13)) → (∀ q : Int, 0 ≤ q → q < h0 (w + 14) 1 → 0 ≤ h (r + 1) q ∧ h (r + 1) q ≤ b) → (b = 2 ^ (12 - m) - 1) → S_ MX5_lookAtStocks d bc bs Q 13 [(2, r), (0, i), (9, 0)] [] nN h := by
  intro m
  induction m with
  | zero =>
    intro i h b hG i0 i1 hh fr sk bd hb
    have hwv := io_of_5 W
    have hrv := io_of_4 A
    have hwr : w + 36 < r := by omega
    clear hwv hrv
    have hw : h r 14 = w := by rw [fr r 14 (by omega)]; exact hw0
    have hf : h r 15 = f := by rw [fr r 15 (by omega)]; exact hf0
    have en := fr (w + 14) 1 (by omega)
    have ep := fr (w + 29) i (by omega)
    have ec := fr (w + 30) i (by omega)
    have ed := fr (f + 1) (32 + i) (by omega)
    have pl := pw_le 0
    refine s_iload_n dX5_lookAtStocks_13 rfl ?_
    refine s_if_lt (tgt := 93) dX5_lookAtStocks_14 (by decide) (by first | exact hG.2 _ _ | exact b01_in _ | assumption | exact ⟨by omega, by omega⟩) (fun c1 => ?_) (fun c1 => ?_)
    · exact s_return dX5_lookAtStocks_93 rfl (q _ hG fr (stk_end sk (by omega)) (fun p q0 q1 => by have := bd p q0 q1; omega))
    · exact absurd c1 (by omega)
  | succ m ih =>
    intro i h b hG i0 i1 hh fr sk bd hb
    have hwv := io_of_5 W
    have hrv := io_of_4 A
    have hwr : w + 36 < r := by omega
    clear hwv hrv
    have hw : h r 14 = w := by rw [fr r 14 (by omega)]; exact hw0
    have hf : h r 15 = f := by rw [fr r 15 (by omega)]; exact hf0
    have en := fr (w + 14) 1 (by omega)
    have ep := fr (w + 29) i (by omega)
    have ec := fr (w + 30) i (by omega)
    have ed := fr (f + 1) (32 + i) (by omega)
    have pl := pw_le (m + 1)
    have hm : m + 1 ≤ 12 := by omega
    have hpi := hpa i (by omega) (by omega)
    have bdi := bd i (by omega) (by omega)
    have bdp := bd (h0 (w + 29) i)
    have hb4 : b ≤ 4095 := by omega
    refine s_iload_n dX5_lookAtStocks_13 rfl ?_
    refine s_if_lt (tgt := 93) dX5_lookAtStocks_14 (by decide) (by first | exact hG.2 _ _ | exact b01_in _ | assumption | exact ⟨by omega, by omega⟩) (fun c1 => ?_) (fun c1 => ?_)
    · exact absurd c1 (by omega)
    · refine s_aload_n dX5_lookAtStocks_17 rfl ?_
      refine s_getr dX5_lookAtStocks_18 fl_X5_50 kl_4 (by decide) rfl A (z := 15) rfl (by first | exact hf | (simp (disch := omega) only [hs_same, hs_ne, fl_in, fl_ne, cp_inn, cp_nee]; exact hf)) (F).1 ?_
      refine s_iload_n dX5_lookAtStocks_21 rfl ?_
      refine s_callV (d' := d - 1) (bc' := 0) (bs' := 0) (as := [_]) dX5_lookAtStocks_22 vf_X5_116 (dd_ (by omega) (by decide)) ⟨Nat.zero_le _, Nat.zero_le _⟩ rfl rfl (Nat.le_of_ble_eq_true rfl) kl_1 rfl F ?_
      refine c_X2_isDead F hG (by omega) (by omega) ?_
      rw [ed]
      refine s_if_ne (tgt := 35) dX5_lookAtStocks_25 (by decide) (by first | exact hG.2 _ _ | exact b01_in _ | assumption | exact ⟨by omega, by omega⟩) (fun c2 => ?_) (fun c2 => ?_)
      · have c2 := b01_n.mp c2
        refine s_aload_n dX5_lookAtStocks_35 rfl ?_
        refine s_getr dX5_lookAtStocks_36 fl_X5_46 kl_4 (by decide) rfl A (z := 14) rfl (by first | exact hw | (simp (disch := omega) only [hs_same, hs_ne, fl_in, fl_ne, cp_inn, cp_nee]; exact hw)) (W).1 ?_
        refine s_getr dX5_lookAtStocks_39 fl_X5_121 kl_5 (by decide) rfl W (z := 4) rfl (rf_5_4 hG.1 W) (rk_5_4 W).1 ?_
        refine s_iload_n dX5_lookAtStocks_42 rfl ?_
        refine s_iaload dX5_lookAtStocks_43 (rk_5_4 W) (by omega) (by omega) ?_
        try simp (disch := omega) only [hs_same, hs_ne, fl_in, fl_ne, cp_inn, cp_nee]
        rw [ep]
        refine s_istore_n dX5_lookAtStocks_44 (by decide) rfl (L' := [_, _, _]) rfl ?_
        refine s_iload_n dX5_lookAtStocks_45 rfl ?_
        refine s_iconst dX5_lookAtStocks_46 ?_
        refine s_icmp_eq (tgt := 65) dX5_lookAtStocks_47 (by decide) (by first | exact hG.2 _ _ | exact b01_in _ | assumption | exact ⟨by omega, by omega⟩) (by first | exact hG.2 _ _ | exact b01_in _ | assumption | exact ⟨by omega, by omega⟩) (fun c3 => ?_) (fun c3 => ?_)
        · refine s_aload_n dX5_lookAtStocks_65 rfl ?_
          refine s_dup dX5_lookAtStocks_66 rfl ?_
          refine s_geti dX5_lookAtStocks_67 fl_X5_104 kl_4 (by decide) rfl A (z := 13) rfl ?_
          refine s_aload_n dX5_lookAtStocks_70 rfl ?_
          refine s_iload_n dX5_lookAtStocks_71 rfl ?_
          refine s_callV (d' := d - 1) (bc' := 0) (bs' := 0) (as := [_]) dX5_lookAtStocks_72 vf_X5_124 (dd_ (by omega) (by decide)) ⟨Nat.zero_le _, Nat.zero_le _⟩ rfl rfl (Nat.le_of_ble_eq_true rfl) kl_4 rfl A ?_
          refine c_X5_isHeir A hG (by first | exact hw | (simp (disch := omega) only [hs_same, hs_ne, fl_in, fl_ne, cp_inn, cp_nee]; exact hw)) W (by omega) (by omega) ?_
          try simp (disch := omega) only [hs_same, hs_ne, fl_in, fl_ne, cp_inn, cp_nee]
          rw [ec]
          refine s_if_eq (tgt := 82) dX5_lookAtStocks_75 (by decide) (by first | exact hG.2 _ _ | exact b01_in _ | assumption | exact ⟨by omega, by omega⟩) (fun c4 => ?_) (fun c4 => ?_)
          · have c4 := b01_0.mp c4
            refine s_iconst dX5_lookAtStocks_82 ?_
            refine s_iadd dX5_lookAtStocks_83 ?_
            refine s_putiG 13 dX5_lookAtStocks_84 fl_X5_104 kl_4 (by decide) rfl rfl A (z := 13) rfl (by decide +kernel) hG (by first | exact hG.2 _ _ | exact b01_in _ | assumption | exact ⟨by omega, by omega⟩) (fun hG1 => ?_)
            refine s_iinc dX5_lookAtStocks_87 rfl (by decide) rfl (L' := [_, _, _]) rfl ?_
            refine s_goto (tgt := 13) dX5_lookAtStocks_90 (by decide) ?_
            refine s_fg (L' := [(2, r), (0, _), (9, 0)]) ⟨Or.inr rfl, Or.inr rfl, Or.inl rfl, trivial⟩ ?_
            refine ih (i + -1) _ (2 * b + 1) hG1 (by omega) (by omega) ?_ ?_ ?_ ?_ ?_
            · simp (disch := omega) only [hs_same, hs_ne, fl_in, fl_ne, cp_inn, cp_nee]
              omega
            · intro x y hx
              simp (disch := omega) only [hs_same, hs_ne, fl_in, fl_ne, cp_inn, cp_nee]
              exact fr x y hx
            · refine stk_step sk (by omega) (by omega) ?_ ?_ ?_ ?_
              · simp (disch := omega) only [hs_same, hs_ne, fl_in, fl_ne, cp_inn, cp_nee]
                first | (rw [if_pos (by omega)]) | (rw [if_neg (by omega)])
              · intro q q0 q1
                by_cases e : h0 (w + 29) i = q
                · rw [if_pos e]
                  simp (disch := omega) only [hs_same, hs_ne, fl_in, fl_ne, cp_inn, cp_nee]
                  first | done | omega | rw [e]
                · rw [if_neg e]
                  simp (disch := omega) only [hs_same, hs_ne, fl_in, fl_ne, cp_inn, cp_nee]
                  try omega
              · intro j j0 j1
                simp (disch := omega) only [hs_same, hs_ne, fl_in, fl_ne, cp_inn, cp_nee]
              · simp (disch := omega) only [hs_same, hs_ne, fl_in, fl_ne, cp_inn, cp_nee]
                first | (rw [if_pos (by omega)]) | (rw [if_neg (by omega)]; try omega)
            · intro q q0 q1
              have bi := bd i (by omega) (by omega)
              have bq := bd q q0 q1
              by_cases e : h0 (w + 29) i = q
              · by_cases e2 : q = i
                · simp (disch := omega) only [hs_same, hs_ne, fl_in, fl_ne, cp_inn, cp_nee]
                  try omega
                · simp (disch := omega) only [hs_same, hs_ne, fl_in, fl_ne, cp_inn, cp_nee]
                  try omega
              · by_cases e2 : q = i
                · simp (disch := omega) only [hs_same, hs_ne, fl_in, fl_ne, cp_inn, cp_nee]
                  try omega
                · simp (disch := omega) only [hs_same, hs_ne, fl_in, fl_ne, cp_inn, cp_nee]
                  try omega
            · rw [pw12 (by omega)]
              omega
          · have c4 := b01_n.mp c4
            refine s_iconst dX5_lookAtStocks_78 ?_
            refine s_goto (tgt := 83) dX5_lookAtStocks_79 (by decide) ?_
            refine s_iadd dX5_lookAtStocks_83 ?_
            refine s_putiG 13 dX5_lookAtStocks_84 fl_X5_104 kl_4 (by decide) rfl rfl A (z := 13) rfl (by decide +kernel) hG (by first | exact hG.2 _ _ | exact b01_in _ | assumption | exact ⟨by omega, by omega⟩) (fun hG2 => ?_)
            refine s_iinc dX5_lookAtStocks_87 rfl (by decide) rfl (L' := [_, _, _]) rfl ?_
            refine s_goto (tgt := 13) dX5_lookAtStocks_90 (by decide) ?_
            refine s_fg (L' := [(2, r), (0, _), (9, 0)]) ⟨Or.inr rfl, Or.inr rfl, Or.inl rfl, trivial⟩ ?_
            refine ih (i + -1) _ (2 * b + 1) hG2 (by omega) (by omega) ?_ ?_ ?_ ?_ ?_
            · simp (disch := omega) only [hs_same, hs_ne, fl_in, fl_ne, cp_inn, cp_nee]
              omega
            · intro x y hx
              simp (disch := omega) only [hs_same, hs_ne, fl_in, fl_ne, cp_inn, cp_nee]
              exact fr x y hx
            · refine stk_step sk (by omega) (by omega) ?_ ?_ ?_ ?_
              · simp (disch := omega) only [hs_same, hs_ne, fl_in, fl_ne, cp_inn, cp_nee]
                first | (rw [if_pos (by omega)]) | (rw [if_neg (by omega)])
              · intro q q0 q1
                by_cases e : h0 (w + 29) i = q
                · rw [if_pos e]
                  simp (disch := omega) only [hs_same, hs_ne, fl_in, fl_ne, cp_inn, cp_nee]
                  first | done | omega | rw [e]
                · rw [if_neg e]
                  simp (disch := omega) only [hs_same, hs_ne, fl_in, fl_ne, cp_inn, cp_nee]
                  try omega
              · intro j j0 j1
                simp (disch := omega) only [hs_same, hs_ne, fl_in, fl_ne, cp_inn, cp_nee]
              · simp (disch := omega) only [hs_same, hs_ne, fl_in, fl_ne, cp_inn, cp_nee]
                first | (rw [if_pos (by omega)]) | (rw [if_neg (by omega)]; try omega)
            · intro q q0 q1
              have bi := bd i (by omega) (by omega)
              have bq := bd q q0 q1
              by_cases e : h0 (w + 29) i = q
              · by_cases e2 : q = i
                · simp (disch := omega) only [hs_same, hs_ne, fl_in, fl_ne, cp_inn, cp_nee]
                  try omega
                · simp (disch := omega) only [hs_same, hs_ne, fl_in, fl_ne, cp_inn, cp_nee]
                  try omega
              · by_cases e2 : q = i
                · simp (disch := omega) only [hs_same, hs_ne, fl_in, fl_ne, cp_inn, cp_nee]
                  try omega
                · simp (disch := omega) only [hs_same, hs_ne, fl_in, fl_ne, cp_inn, cp_nee]
                  try omega
            · rw [pw12 (by omega)]
              omega
        · refine s_aload_n dX5_lookAtStocks_50 rfl ?_
          refine s_getr dX5_lookAtStocks_51 fl_X5_9 kl_4 (by decide) rfl A (z := 0) rfl (rf_4_0 hG.1 A) (rk_4_0 A).1 ?_
          refine s_iload_n dX5_lookAtStocks_54 rfl ?_
          refine s_dup2 dX5_lookAtStocks_55 rfl rfl ?_
          refine s_iaload dX5_lookAtStocks_56 (rk_4_0 A) (by omega) (by omega) ?_
          refine s_aload_n dX5_lookAtStocks_57 rfl ?_
          refine s_getr dX5_lookAtStocks_58 fl_X5_9 kl_4 (by decide) rfl A (z := 0) rfl (rf_4_0 hG.1 A) (rk_4_0 A).1 ?_
          refine s_iload_n dX5_lookAtStocks_61 rfl ?_
          refine s_iaload dX5_lookAtStocks_62 (rk_4_0 A) (by omega) (by omega) ?_
          refine s_iadd dX5_lookAtStocks_63 ?_
          refine s_iastoreG dX5_lookAtStocks_64 (rk_4_0 A) (by omega) (by omega) hG (by first | exact hG.2 _ _ | exact b01_in _ | assumption | exact ⟨by omega, by omega⟩) (fun hG3 => ?_)
          refine s_aload_n dX5_lookAtStocks_65 rfl ?_
          refine s_dup dX5_lookAtStocks_66 rfl ?_
          refine s_geti dX5_lookAtStocks_67 fl_X5_104 kl_4 (by decide) rfl A (z := 13) rfl ?_
          try simp (disch := omega) only [hs_same, hs_ne, fl_in, fl_ne, cp_inn, cp_nee]
          refine s_aload_n dX5_lookAtStocks_70 rfl ?_
          refine s_iload_n dX5_lookAtStocks_71 rfl ?_
          refine s_callV (d' := d - 1) (bc' := 0) (bs' := 0) (as := [_]) dX5_lookAtStocks_72 vf_X5_124 (dd_ (by omega) (by decide)) ⟨Nat.zero_le _, Nat.zero_le _⟩ rfl rfl (Nat.le_of_ble_eq_true rfl) kl_4 rfl A ?_
          refine c_X5_isHeir A hG3 (by first | exact hw | (simp (disch := omega) only [hs_same, hs_ne, fl_in, fl_ne, cp_inn, cp_nee]; exact hw)) W (by omega) (by omega) ?_
          try simp (disch := omega) only [hs_same, hs_ne, fl_in, fl_ne, cp_inn, cp_nee]
          rw [ec]
          refine s_if_eq (tgt := 82) dX5_lookAtStocks_75 (by decide) (by first | exact hG3.2 _ _ | exact hG.2 _ _ | exact b01_in _ | assumption | exact ⟨by omega, by omega⟩) (fun c5 => ?_) (fun c5 => ?_)
          · have c5 := b01_0.mp c5
            refine s_iconst dX5_lookAtStocks_82 ?_
            refine s_iadd dX5_lookAtStocks_83 ?_
            refine s_putiG 13 dX5_lookAtStocks_84 fl_X5_104 kl_4 (by decide) rfl rfl A (z := 13) rfl (by decide +kernel) hG3 (by first | exact hG3.2 _ _ | exact hG.2 _ _ | exact b01_in _ | assumption | exact ⟨by omega, by omega⟩) (fun hG4 => ?_)
            refine s_iinc dX5_lookAtStocks_87 rfl (by decide) rfl (L' := [_, _, _]) rfl ?_
            refine s_goto (tgt := 13) dX5_lookAtStocks_90 (by decide) ?_
            refine s_fg (L' := [(2, r), (0, _), (9, 0)]) ⟨Or.inr rfl, Or.inr rfl, Or.inl rfl, trivial⟩ ?_
            refine ih (i + -1) _ (2 * b + 1) hG4 (by omega) (by omega) ?_ ?_ ?_ ?_ ?_
            · simp (disch := omega) only [hs_same, hs_ne, fl_in, fl_ne, cp_inn, cp_nee]
              omega
            · intro x y hx
              simp (disch := omega) only [hs_same, hs_ne, fl_in, fl_ne, cp_inn, cp_nee]
              exact fr x y hx
            · refine stk_step sk (by omega) (by omega) ?_ ?_ ?_ ?_
              · simp (disch := omega) only [hs_same, hs_ne, fl_in, fl_ne, cp_inn, cp_nee]
                first | (rw [if_pos (by omega)]) | (rw [if_neg (by omega)])
              · intro q q0 q1
                by_cases e : h0 (w + 29) i = q
                · rw [if_pos e]
                  simp (disch := omega) only [hs_same, hs_ne, fl_in, fl_ne, cp_inn, cp_nee]
                  first | done | omega | rw [e]
                · rw [if_neg e]
                  simp (disch := omega) only [hs_same, hs_ne, fl_in, fl_ne, cp_inn, cp_nee]
                  try omega
              · intro j j0 j1
                simp (disch := omega) only [hs_same, hs_ne, fl_in, fl_ne, cp_inn, cp_nee]
              · simp (disch := omega) only [hs_same, hs_ne, fl_in, fl_ne, cp_inn, cp_nee]
                first | (rw [if_pos (by omega)]) | (rw [if_neg (by omega)]; try omega)
            · intro q q0 q1
              have bi := bd i (by omega) (by omega)
              have bq := bd q q0 q1
              by_cases e : h0 (w + 29) i = q
              · by_cases e2 : q = i
                · simp (disch := omega) only [hs_same, hs_ne, fl_in, fl_ne, cp_inn, cp_nee]
                  try omega
                · simp (disch := omega) only [hs_same, hs_ne, fl_in, fl_ne, cp_inn, cp_nee]
                  try omega
              · by_cases e2 : q = i
                · simp (disch := omega) only [hs_same, hs_ne, fl_in, fl_ne, cp_inn, cp_nee]
                  try omega
                · simp (disch := omega) only [hs_same, hs_ne, fl_in, fl_ne, cp_inn, cp_nee]
                  try omega
            · rw [pw12 (by omega)]
              omega
          · have c5 := b01_n.mp c5
            refine s_iconst dX5_lookAtStocks_78 ?_
            refine s_goto (tgt := 83) dX5_lookAtStocks_79 (by decide) ?_
            refine s_iadd dX5_lookAtStocks_83 ?_
            refine s_putiG 13 dX5_lookAtStocks_84 fl_X5_104 kl_4 (by decide) rfl rfl A (z := 13) rfl (by decide +kernel) hG3 (by first | exact hG3.2 _ _ | exact hG.2 _ _ | exact b01_in _ | assumption | exact ⟨by omega, by omega⟩) (fun hG5 => ?_)
            refine s_iinc dX5_lookAtStocks_87 rfl (by decide) rfl (L' := [_, _, _]) rfl ?_
            refine s_goto (tgt := 13) dX5_lookAtStocks_90 (by decide) ?_
            refine s_fg (L' := [(2, r), (0, _), (9, 0)]) ⟨Or.inr rfl, Or.inr rfl, Or.inl rfl, trivial⟩ ?_
            refine ih (i + -1) _ (2 * b + 1) hG5 (by omega) (by omega) ?_ ?_ ?_ ?_ ?_
            · simp (disch := omega) only [hs_same, hs_ne, fl_in, fl_ne, cp_inn, cp_nee]
              omega
            · intro x y hx
              simp (disch := omega) only [hs_same, hs_ne, fl_in, fl_ne, cp_inn, cp_nee]
              exact fr x y hx
            · refine stk_step sk (by omega) (by omega) ?_ ?_ ?_ ?_
              · simp (disch := omega) only [hs_same, hs_ne, fl_in, fl_ne, cp_inn, cp_nee]
                first | (rw [if_pos (by omega)]) | (rw [if_neg (by omega)])
              · intro q q0 q1
                by_cases e : h0 (w + 29) i = q
                · rw [if_pos e]
                  simp (disch := omega) only [hs_same, hs_ne, fl_in, fl_ne, cp_inn, cp_nee]
                  first | done | omega | rw [e]
                · rw [if_neg e]
                  simp (disch := omega) only [hs_same, hs_ne, fl_in, fl_ne, cp_inn, cp_nee]
                  try omega
              · intro j j0 j1
                simp (disch := omega) only [hs_same, hs_ne, fl_in, fl_ne, cp_inn, cp_nee]
              · simp (disch := omega) only [hs_same, hs_ne, fl_in, fl_ne, cp_inn, cp_nee]
                first | (rw [if_pos (by omega)]) | (rw [if_neg (by omega)]; try omega)
            · intro q q0 q1
              have bi := bd i (by omega) (by omega)
              have bq := bd q q0 q1
              by_cases e : h0 (w + 29) i = q
              · by_cases e2 : q = i
                · simp (disch := omega) only [hs_same, hs_ne, fl_in, fl_ne, cp_inn, cp_nee]
                  try omega
                · simp (disch := omega) only [hs_same, hs_ne, fl_in, fl_ne, cp_inn, cp_nee]
                  try omega
              · by_cases e2 : q = i
                · simp (disch := omega) only [hs_same, hs_ne, fl_in, fl_ne, cp_inn, cp_nee]
                  try omega
                · simp (disch := omega) only [hs_same, hs_ne, fl_in, fl_ne, cp_inn, cp_nee]
                  try omega
            · rw [pw12 (by omega)]
              omega
      · have c2 := b01_0.mp c2
        refine s_aload_n dX5_lookAtStocks_28 rfl ?_
        refine s_getr dX5_lookAtStocks_29 fl_X5_9 kl_4 (by decide) rfl A (z := 0) rfl (rf_4_0 hG.1 A) (rk_4_0 A).1 ?_
        refine s_iload_n dX5_lookAtStocks_32 rfl ?_
        refine s_iconst dX5_lookAtStocks_33 ?_
        refine s_iastoreG dX5_lookAtStocks_34 (rk_4_0 A) (by omega) (by omega) hG (by first | exact hG.2 _ _ | exact b01_in _ | assumption | exact ⟨by omega, by omega⟩) (fun hG6 => ?_)
        refine s_aload_n dX5_lookAtStocks_35 rfl ?_
        refine s_getr dX5_lookAtStocks_36 fl_X5_46 kl_4 (by decide) rfl A (z := 14) rfl (by first | exact hw | (simp (disch := omega) only [hs_same, hs_ne, fl_in, fl_ne, cp_inn, cp_nee]; exact hw)) (W).1 ?_
        refine s_getr dX5_lookAtStocks_39 fl_X5_121 kl_5 (by decide) rfl W (z := 4) rfl (rf_5_4 hG6.1 W) (rk_5_4 W).1 ?_
        refine s_iload_n dX5_lookAtStocks_42 rfl ?_
        refine s_iaload dX5_lookAtStocks_43 (rk_5_4 W) (by omega) (by omega) ?_
        try simp (disch := omega) only [hs_same, hs_ne, fl_in, fl_ne, cp_inn, cp_nee]
        try simp (disch := omega) only [hs_same, hs_ne, fl_in, fl_ne, cp_inn, cp_nee]
        rw [ep]
        refine s_istore_n dX5_lookAtStocks_44 (by decide) rfl (L' := [_, _, _]) rfl ?_
        refine s_iload_n dX5_lookAtStocks_45 rfl ?_
        refine s_iconst dX5_lookAtStocks_46 ?_
        refine s_icmp_eq (tgt := 65) dX5_lookAtStocks_47 (by decide) (by first | exact hG6.2 _ _ | exact hG.2 _ _ | exact b01_in _ | assumption | exact ⟨by omega, by omega⟩) (by first | exact hG6.2 _ _ | exact hG.2 _ _ | exact b01_in _ | assumption | exact ⟨by omega, by omega⟩) (fun c6 => ?_) (fun c6 => ?_)
        · refine s_aload_n dX5_lookAtStocks_65 rfl ?_
          refine s_dup dX5_lookAtStocks_66 rfl ?_
          refine s_geti dX5_lookAtStocks_67 fl_X5_104 kl_4 (by decide) rfl A (z := 13) rfl ?_
          try simp (disch := omega) only [hs_same, hs_ne, fl_in, fl_ne, cp_inn, cp_nee]
          refine s_aload_n dX5_lookAtStocks_70 rfl ?_
          refine s_iload_n dX5_lookAtStocks_71 rfl ?_
          refine s_callV (d' := d - 1) (bc' := 0) (bs' := 0) (as := [_]) dX5_lookAtStocks_72 vf_X5_124 (dd_ (by omega) (by decide)) ⟨Nat.zero_le _, Nat.zero_le _⟩ rfl rfl (Nat.le_of_ble_eq_true rfl) kl_4 rfl A ?_
          refine c_X5_isHeir A hG6 (by first | exact hw | (simp (disch := omega) only [hs_same, hs_ne, fl_in, fl_ne, cp_inn, cp_nee]; exact hw)) W (by omega) (by omega) ?_
          try simp (disch := omega) only [hs_same, hs_ne, fl_in, fl_ne, cp_inn, cp_nee]
          rw [ec]
          refine s_if_eq (tgt := 82) dX5_lookAtStocks_75 (by decide) (by first | exact hG6.2 _ _ | exact hG.2 _ _ | exact b01_in _ | assumption | exact ⟨by omega, by omega⟩) (fun c7 => ?_) (fun c7 => ?_)
          · have c7 := b01_0.mp c7
            refine s_iconst dX5_lookAtStocks_82 ?_
            refine s_iadd dX5_lookAtStocks_83 ?_
            refine s_putiG 13 dX5_lookAtStocks_84 fl_X5_104 kl_4 (by decide) rfl rfl A (z := 13) rfl (by decide +kernel) hG6 (by first | exact hG6.2 _ _ | exact hG.2 _ _ | exact b01_in _ | assumption | exact ⟨by omega, by omega⟩) (fun hG7 => ?_)
            refine s_iinc dX5_lookAtStocks_87 rfl (by decide) rfl (L' := [_, _, _]) rfl ?_
            refine s_goto (tgt := 13) dX5_lookAtStocks_90 (by decide) ?_
            refine s_fg (L' := [(2, r), (0, _), (9, 0)]) ⟨Or.inr rfl, Or.inr rfl, Or.inl rfl, trivial⟩ ?_
            refine ih (i + -1) _ (2 * b + 1) hG7 (by omega) (by omega) ?_ ?_ ?_ ?_ ?_
            · simp (disch := omega) only [hs_same, hs_ne, fl_in, fl_ne, cp_inn, cp_nee]
              omega
            · intro x y hx
              simp (disch := omega) only [hs_same, hs_ne, fl_in, fl_ne, cp_inn, cp_nee]
              exact fr x y hx
            · refine stk_step sk (by omega) (by omega) ?_ ?_ ?_ ?_
              · simp (disch := omega) only [hs_same, hs_ne, fl_in, fl_ne, cp_inn, cp_nee]
                first | (rw [if_pos (by omega)]) | (rw [if_neg (by omega)])
              · intro q q0 q1
                by_cases e : h0 (w + 29) i = q
                · rw [if_pos e]
                  simp (disch := omega) only [hs_same, hs_ne, fl_in, fl_ne, cp_inn, cp_nee]
                  first | done | omega | rw [e]
                · rw [if_neg e]
                  simp (disch := omega) only [hs_same, hs_ne, fl_in, fl_ne, cp_inn, cp_nee]
                  try omega
              · intro j j0 j1
                simp (disch := omega) only [hs_same, hs_ne, fl_in, fl_ne, cp_inn, cp_nee]
              · simp (disch := omega) only [hs_same, hs_ne, fl_in, fl_ne, cp_inn, cp_nee]
                first | (rw [if_pos (by omega)]) | (rw [if_neg (by omega)]; try omega)
            · intro q q0 q1
              have bi := bd i (by omega) (by omega)
              have bq := bd q q0 q1
              by_cases e : h0 (w + 29) i = q
              · by_cases e2 : q = i
                · simp (disch := omega) only [hs_same, hs_ne, fl_in, fl_ne, cp_inn, cp_nee]
                  try omega
                · simp (disch := omega) only [hs_same, hs_ne, fl_in, fl_ne, cp_inn, cp_nee]
                  try omega
              · by_cases e2 : q = i
                · simp (disch := omega) only [hs_same, hs_ne, fl_in, fl_ne, cp_inn, cp_nee]
                  try omega
                · simp (disch := omega) only [hs_same, hs_ne, fl_in, fl_ne, cp_inn, cp_nee]
                  try omega
            · rw [pw12 (by omega)]
              omega
          · have c7 := b01_n.mp c7
            refine s_iconst dX5_lookAtStocks_78 ?_
            refine s_goto (tgt := 83) dX5_lookAtStocks_79 (by decide) ?_
            refine s_iadd dX5_lookAtStocks_83 ?_
            refine s_putiG 13 dX5_lookAtStocks_84 fl_X5_104 kl_4 (by decide) rfl rfl A (z := 13) rfl (by decide +kernel) hG6 (by first | exact hG6.2 _ _ | exact hG.2 _ _ | exact b01_in _ | assumption | exact ⟨by omega, by omega⟩) (fun hG8 => ?_)
            refine s_iinc dX5_lookAtStocks_87 rfl (by decide) rfl (L' := [_, _, _]) rfl ?_
            refine s_goto (tgt := 13) dX5_lookAtStocks_90 (by decide) ?_
            refine s_fg (L' := [(2, r), (0, _), (9, 0)]) ⟨Or.inr rfl, Or.inr rfl, Or.inl rfl, trivial⟩ ?_
            refine ih (i + -1) _ (2 * b + 1) hG8 (by omega) (by omega) ?_ ?_ ?_ ?_ ?_
            · simp (disch := omega) only [hs_same, hs_ne, fl_in, fl_ne, cp_inn, cp_nee]
              omega
            · intro x y hx
              simp (disch := omega) only [hs_same, hs_ne, fl_in, fl_ne, cp_inn, cp_nee]
              exact fr x y hx
            · refine stk_step sk (by omega) (by omega) ?_ ?_ ?_ ?_
              · simp (disch := omega) only [hs_same, hs_ne, fl_in, fl_ne, cp_inn, cp_nee]
                first | (rw [if_pos (by omega)]) | (rw [if_neg (by omega)])
              · intro q q0 q1
                by_cases e : h0 (w + 29) i = q
                · rw [if_pos e]
                  simp (disch := omega) only [hs_same, hs_ne, fl_in, fl_ne, cp_inn, cp_nee]
                  first | done | omega | rw [e]
                · rw [if_neg e]
                  simp (disch := omega) only [hs_same, hs_ne, fl_in, fl_ne, cp_inn, cp_nee]
                  try omega
              · intro j j0 j1
                simp (disch := omega) only [hs_same, hs_ne, fl_in, fl_ne, cp_inn, cp_nee]
              · simp (disch := omega) only [hs_same, hs_ne, fl_in, fl_ne, cp_inn, cp_nee]
                first | (rw [if_pos (by omega)]) | (rw [if_neg (by omega)]; try omega)
            · intro q q0 q1
              have bi := bd i (by omega) (by omega)
              have bq := bd q q0 q1
              by_cases e : h0 (w + 29) i = q
              · by_cases e2 : q = i
                · simp (disch := omega) only [hs_same, hs_ne, fl_in, fl_ne, cp_inn, cp_nee]
                  try omega
                · simp (disch := omega) only [hs_same, hs_ne, fl_in, fl_ne, cp_inn, cp_nee]
                  try omega
              · by_cases e2 : q = i
                · simp (disch := omega) only [hs_same, hs_ne, fl_in, fl_ne, cp_inn, cp_nee]
                  try omega
                · simp (disch := omega) only [hs_same, hs_ne, fl_in, fl_ne, cp_inn, cp_nee]
                  try omega
            · rw [pw12 (by omega)]
              omega
        · refine s_aload_n dX5_lookAtStocks_50 rfl ?_
          refine s_getr dX5_lookAtStocks_51 fl_X5_9 kl_4 (by decide) rfl A (z := 0) rfl (rf_4_0 hG6.1 A) (rk_4_0 A).1 ?_
          refine s_iload_n dX5_lookAtStocks_54 rfl ?_
          refine s_dup2 dX5_lookAtStocks_55 rfl rfl ?_
          refine s_iaload dX5_lookAtStocks_56 (rk_4_0 A) (by omega) (by omega) ?_
          try simp (disch := omega) only [hs_same, hs_ne, fl_in, fl_ne, cp_inn, cp_nee]
          refine s_aload_n dX5_lookAtStocks_57 rfl ?_
          refine s_getr dX5_lookAtStocks_58 fl_X5_9 kl_4 (by decide) rfl A (z := 0) rfl (rf_4_0 hG6.1 A) (rk_4_0 A).1 ?_
          refine s_iload_n dX5_lookAtStocks_61 rfl ?_
          refine s_iaload dX5_lookAtStocks_62 (rk_4_0 A) (by omega) (by omega) ?_
          try simp (disch := omega) only [hs_same, hs_ne, fl_in, fl_ne, cp_inn, cp_nee]
          refine s_iadd dX5_lookAtStocks_63 ?_
          refine s_iastoreG dX5_lookAtStocks_64 (rk_4_0 A) (by omega) (by omega) hG6 (by first | exact hG6.2 _ _ | exact hG.2 _ _ | exact b01_in _ | assumption | exact ⟨by omega, by omega⟩) (fun hG9 => ?_)
          refine s_aload_n dX5_lookAtStocks_65 rfl ?_
          refine s_dup dX5_lookAtStocks_66 rfl ?_
          refine s_geti dX5_lookAtStocks_67 fl_X5_104 kl_4 (by decide) rfl A (z := 13) rfl ?_
          try simp (disch := omega) only [hs_same, hs_ne, fl_in, fl_ne, cp_inn, cp_nee]
          refine s_aload_n dX5_lookAtStocks_70 rfl ?_
          refine s_iload_n dX5_lookAtStocks_71 rfl ?_
          refine s_callV (d' := d - 1) (bc' := 0) (bs' := 0) (as := [_]) dX5_lookAtStocks_72 vf_X5_124 (dd_ (by omega) (by decide)) ⟨Nat.zero_le _, Nat.zero_le _⟩ rfl rfl (Nat.le_of_ble_eq_true rfl) kl_4 rfl A ?_
          refine c_X5_isHeir A hG9 (by first | exact hw | (simp (disch := omega) only [hs_same, hs_ne, fl_in, fl_ne, cp_inn, cp_nee]; exact hw)) W (by omega) (by omega) ?_
          try simp (disch := omega) only [hs_same, hs_ne, fl_in, fl_ne, cp_inn, cp_nee]
          rw [ec]
          refine s_if_eq (tgt := 82) dX5_lookAtStocks_75 (by decide) (by first | exact hG9.2 _ _ | exact hG.2 _ _ | exact b01_in _ | assumption | exact ⟨by omega, by omega⟩) (fun c8 => ?_) (fun c8 => ?_)
          · have c8 := b01_0.mp c8
            refine s_iconst dX5_lookAtStocks_82 ?_
            refine s_iadd dX5_lookAtStocks_83 ?_
            refine s_putiG 13 dX5_lookAtStocks_84 fl_X5_104 kl_4 (by decide) rfl rfl A (z := 13) rfl (by decide +kernel) hG9 (by first | exact hG9.2 _ _ | exact hG.2 _ _ | exact b01_in _ | assumption | exact ⟨by omega, by omega⟩) (fun hG10 => ?_)
            refine s_iinc dX5_lookAtStocks_87 rfl (by decide) rfl (L' := [_, _, _]) rfl ?_
            refine s_goto (tgt := 13) dX5_lookAtStocks_90 (by decide) ?_
            refine s_fg (L' := [(2, r), (0, _), (9, 0)]) ⟨Or.inr rfl, Or.inr rfl, Or.inl rfl, trivial⟩ ?_
            refine ih (i + -1) _ (2 * b + 1) hG10 (by omega) (by omega) ?_ ?_ ?_ ?_ ?_
            · simp (disch := omega) only [hs_same, hs_ne, fl_in, fl_ne, cp_inn, cp_nee]
              omega
            · intro x y hx
              simp (disch := omega) only [hs_same, hs_ne, fl_in, fl_ne, cp_inn, cp_nee]
              exact fr x y hx
            · refine stk_step sk (by omega) (by omega) ?_ ?_ ?_ ?_
              · simp (disch := omega) only [hs_same, hs_ne, fl_in, fl_ne, cp_inn, cp_nee]
                first | (rw [if_pos (by omega)]) | (rw [if_neg (by omega)])
              · intro q q0 q1
                by_cases e : h0 (w + 29) i = q
                · rw [if_pos e]
                  simp (disch := omega) only [hs_same, hs_ne, fl_in, fl_ne, cp_inn, cp_nee]
                  first | done | omega | rw [e]
                · rw [if_neg e]
                  simp (disch := omega) only [hs_same, hs_ne, fl_in, fl_ne, cp_inn, cp_nee]
                  try omega
              · intro j j0 j1
                simp (disch := omega) only [hs_same, hs_ne, fl_in, fl_ne, cp_inn, cp_nee]
              · simp (disch := omega) only [hs_same, hs_ne, fl_in, fl_ne, cp_inn, cp_nee]
                first | (rw [if_pos (by omega)]) | (rw [if_neg (by omega)]; try omega)
            · intro q q0 q1
              have bi := bd i (by omega) (by omega)
              have bq := bd q q0 q1
              by_cases e : h0 (w + 29) i = q
              · by_cases e2 : q = i
                · simp (disch := omega) only [hs_same, hs_ne, fl_in, fl_ne, cp_inn, cp_nee]
                  try omega
                · simp (disch := omega) only [hs_same, hs_ne, fl_in, fl_ne, cp_inn, cp_nee]
                  try omega
              · by_cases e2 : q = i
                · simp (disch := omega) only [hs_same, hs_ne, fl_in, fl_ne, cp_inn, cp_nee]
                  try omega
                · simp (disch := omega) only [hs_same, hs_ne, fl_in, fl_ne, cp_inn, cp_nee]
                  try omega
            · rw [pw12 (by omega)]
              omega
          · have c8 := b01_n.mp c8
            refine s_iconst dX5_lookAtStocks_78 ?_
            refine s_goto (tgt := 83) dX5_lookAtStocks_79 (by decide) ?_
            refine s_iadd dX5_lookAtStocks_83 ?_
            refine s_putiG 13 dX5_lookAtStocks_84 fl_X5_104 kl_4 (by decide) rfl rfl A (z := 13) rfl (by decide +kernel) hG9 (by first | exact hG9.2 _ _ | exact hG.2 _ _ | exact b01_in _ | assumption | exact ⟨by omega, by omega⟩) (fun hG11 => ?_)
            refine s_iinc dX5_lookAtStocks_87 rfl (by decide) rfl (L' := [_, _, _]) rfl ?_
            refine s_goto (tgt := 13) dX5_lookAtStocks_90 (by decide) ?_
            refine s_fg (L' := [(2, r), (0, _), (9, 0)]) ⟨Or.inr rfl, Or.inr rfl, Or.inl rfl, trivial⟩ ?_
            refine ih (i + -1) _ (2 * b + 1) hG11 (by omega) (by omega) ?_ ?_ ?_ ?_ ?_
            · simp (disch := omega) only [hs_same, hs_ne, fl_in, fl_ne, cp_inn, cp_nee]
              omega
            · intro x y hx
              simp (disch := omega) only [hs_same, hs_ne, fl_in, fl_ne, cp_inn, cp_nee]
              exact fr x y hx
            · refine stk_step sk (by omega) (by omega) ?_ ?_ ?_ ?_
              · simp (disch := omega) only [hs_same, hs_ne, fl_in, fl_ne, cp_inn, cp_nee]
                first | (rw [if_pos (by omega)]) | (rw [if_neg (by omega)])
              · intro q q0 q1
                by_cases e : h0 (w + 29) i = q
                · rw [if_pos e]
                  simp (disch := omega) only [hs_same, hs_ne, fl_in, fl_ne, cp_inn, cp_nee]
                  first | done | omega | rw [e]
                · rw [if_neg e]
                  simp (disch := omega) only [hs_same, hs_ne, fl_in, fl_ne, cp_inn, cp_nee]
                  try omega
              · intro j j0 j1
                simp (disch := omega) only [hs_same, hs_ne, fl_in, fl_ne, cp_inn, cp_nee]
              · simp (disch := omega) only [hs_same, hs_ne, fl_in, fl_ne, cp_inn, cp_nee]
                first | (rw [if_pos (by omega)]) | (rw [if_neg (by omega)]; try omega)
            · intro q q0 q1
              have bi := bd i (by omega) (by omega)
              have bq := bd q q0 q1
              by_cases e : h0 (w + 29) i = q
              · by_cases e2 : q = i
                · simp (disch := omega) only [hs_same, hs_ne, fl_in, fl_ne, cp_inn, cp_nee]
                  try omega
                · simp (disch := omega) only [hs_same, hs_ne, fl_in, fl_ne, cp_inn, cp_nee]
                  try omega
              · by_cases e2 : q = i
                · simp (disch := omega) only [hs_same, hs_ne, fl_in, fl_ne, cp_inn, cp_nee]
                  try omega
                · simp (disch := omega) only [hs_same, hs_ne, fl_in, fl_ne, cp_inn, cp_nee]
                  try omega
            · rw [pw12 (by omega)]
              omega
set_option maxRecDepth 100000 in
set_option maxHeartbeats 4000000 in
theorem c_X5_lookAtStocks {h0 : PH} (hd : 3 ≤ d) (A : isO nN r 4) (W : isO nN w 5) (F : isO nN f 1) (hfr : f + 1 < r) (hw0 : h0 r 14 = w) (hf0 : h0 r 15 = f) (p0 : 0 ≤ h0 (w + 14) 1) (p9 : h0 (w + 14) 1 ≤ 12) (hpa : ∀ p : Int, 0 ≤ p → p < h0 (w + 14) 1 → -1 ≤ h0 (w + 29) p ∧ h0 (w + 29) p < p) (hG : G h0) (hz : ∀ p : Int, 0 ≤ p → p < 12 → h0 (r + 1) p = 0) (hz2 : h0 r 13 = 0) (q : ∀ h' : PH, G h' → (∀ x y : Int, ¬ (x = r + 1 ∨ (x = r ∧ y = 13)) → h' x y = h0 x y) → liv_ (h0 (w + 14) 1) (h0 (w + 29)) (fun q => h0 (f + 1) (32 + q)) (h0 (w + 30)) (h' (r + 1)) (h' r 13) → (∀ p : Int, 0 ≤ p → p < h0 (w + 14) 1 → 0 ≤ h' (r + 1) p ∧ h' (r + 1) p ≤ 4096) → Q.1 none nN h') : Cl_ yX5_lookAtStocks MX5_lookAtStocks d bc bs [(2, r)] nN h0 Q := by
  refine s_enter pn_X5 rfl (Nat.le_of_ble_eq_true rfl) (L := [(2, _), (9, 0), (9, 0)]) rfl ?_
  refine s_aload_n dX5_lookAtStocks_0 rfl ?_
  refine s_getr dX5_lookAtStocks_1 fl_X5_46 kl_4 (by decide) rfl A (z := 14) rfl hw0 (W).1 ?_
  refine s_getr dX5_lookAtStocks_4 fl_X5_107 kl_5 (by decide) rfl W (z := 3) rfl (rf_5_3 hG.1 W) (rk_5_3 W).1 ?_
  refine s_geti dX5_lookAtStocks_7 fl_X5_111 kl_2 (by decide) rfl (rk_5_3 W) (z := 1) rfl ?_
  refine s_iconst dX5_lookAtStocks_10 ?_
  refine s_isub dX5_lookAtStocks_11 ?_
  refine s_istore_n dX5_lookAtStocks_12 (by decide) rfl (L' := [_, _, _]) rfl ?_
  refine lp_X5_lookAtStocks hd A W F hfr hw0 hf0 p0 p9 hpa q (h0 (w + 14) 1).toNat _ h0 (2 ^ (12 - (h0 (w + 14) 1).toNat) - 1) hG (by omega) (by omega) (by rw [hz2]; omega) (fun _ _ _ => rfl) ?_ ?_ rfl
  · rw [hz2]
    exact stk_0 (fun q q0 q1 => hz q q0 (by omega))
  · intro q q0 q1
    rw [hz q q0 (by omega)]
    have h1 : (1 : Int) ≤ 2 ^ (12 - (h0 (w + 14) 1).toNat) := pw_ge _
    omega
end X5C
