/-! WillHouse$Reckoning, what only reads. Its rows lie behind the object: 1 living, 2 lapses, 3 what is left of funds, 5 + g due, 18 + g got, 31 + g taken of gift g, 43 inherited, 44 weights, 45 rests, 46 passing; its places 7 estate, 8 available, 9 rest, 10 intestate, 11 bona, 12 cut, 13 heirs, 14 the will w, 15 the facts f -/
section X5A
variable {d bc bs : Nat} {Q : PQ} {h : PH} {r w f : Int}
set_option maxRecDepth 100000 in
set_option maxHeartbeats 4000000 in
theorem c_X5_isHeir {p : Int} (A : isO nN r 4) (hG : G h) (hw : h r 14 = w) (W : isO nN w 5) (q0 : 0 ≤ p) (q1 : p < 12) (k : Q.1 (some (0, b01 (¬ h (w + 30) p = 0 ∧ 0 < h (r + 1) p))) nN h) : Cl_ yX5_isHeir MX5_isHeir d bc bs [(2, r), (0, p)] nN h Q := by
  refine s_enter pn_X5 rfl (Nat.le_of_ble_eq_true rfl) (L := [(2, _), (0, _)]) rfl ?_
  refine s_aload_n dX5_isHeir_0 rfl ?_
  refine s_getr dX5_isHeir_1 fl_X5_46 kl_4 (by decide) rfl A (z := 14) rfl (by first | exact hw | (simp (disch := omega) only [hs_same, hs_ne, fl_in, fl_ne, cp_inn, cp_nee]; exact hw)) (W).1 ?_
  refine s_getr dX5_isHeir_4 fl_X5_127 kl_5 (by decide) rfl W (z := 5) rfl (rf_5_5 hG.1 W) (rk_5_5 W).1 ?_
  refine s_iload_n dX5_isHeir_7 rfl ?_
  refine s_baload2 dX5_isHeir_8 (rk_5_5 W) (by omega) (by omega) ?_
  refine s_if_eq (tgt := 25) dX5_isHeir_9 (by decide) (by first | exact hG.2 _ _ | exact b01_in _ | assumption | exact ⟨by omega, by omega⟩) (fun c1 => ?_) (fun c1 => ?_)
  · refine s_iconst dX5_isHeir_25 ?_
    refine s_zreturn dX5_isHeir_26 rfl (by first | exact Or.inl rfl | exact Or.inr rfl) ?_
    first | (rw [b01_t (c := ¬ h (w + 30) p = 0 ∧ 0 < h (r + 1) p) (by first | exact c1 | omega)] at k; exact k) | (rw [b01_f (c := ¬ h (w + 30) p = 0 ∧ 0 < h (r + 1) p) (by first | exact c1 | omega)] at k; exact k)
  · refine s_aload_n dX5_isHeir_12 rfl ?_
    refine s_getr dX5_isHeir_13 fl_X5_9 kl_4 (by decide) rfl A (z := 0) rfl (rf_4_0 hG.1 A) (rk_4_0 A).1 ?_
    refine s_iload_n dX5_isHeir_16 rfl ?_
    refine s_iaload dX5_isHeir_17 (rk_4_0 A) (by omega) (by omega) ?_
    refine s_if_le (tgt := 25) dX5_isHeir_18 (by decide) (by first | exact hG.2 _ _ | exact b01_in _ | assumption | exact ⟨by omega, by omega⟩) (fun c2 => ?_) (fun c2 => ?_)
    · refine s_iconst dX5_isHeir_25 ?_
      refine s_zreturn dX5_isHeir_26 rfl (by first | exact Or.inl rfl | exact Or.inr rfl) ?_
      first | (rw [b01_t (c := ¬ h (w + 30) p = 0 ∧ 0 < h (r + 1) p) (by first | exact c2 | omega)] at k; exact k) | (rw [b01_f (c := ¬ h (w + 30) p = 0 ∧ 0 < h (r + 1) p) (by first | exact c2 | omega)] at k; exact k)
    · refine s_iconst dX5_isHeir_21 ?_
      refine s_goto (tgt := 26) dX5_isHeir_22 (by decide) ?_
      refine s_zreturn dX5_isHeir_26 rfl (by first | exact Or.inl rfl | exact Or.inr rfl) ?_
      first | (rw [b01_t (c := ¬ h (w + 30) p = 0 ∧ 0 < h (r + 1) p) (by first | exact c2 | omega)] at k; exact k) | (rw [b01_f (c := ¬ h (w + 30) p = 0 ∧ 0 < h (r + 1) p) (by first | exact c2 | omega)] at k; exact k)
set_option maxRecDepth 100000 in
set_option maxHeartbeats 4000000 in
theorem c_X5_isLapsed {g : Int} (hd : 2 ≤ d) (A : isO nN r 4) (hG : G h) (hw : h r 14 = w) (W : isO nN w 5) (hf : h r 15 = f) (F : isO nN f 1) (q0 : 0 ≤ g) (q1 : g < 12) (x0 : 0 ≤ h (w + 33) g) (x1 : h (w + 33) g < 12) (k : Q.1 (some (0, b01 (¬ h (f + 1) (44 + g) = 0 ∨ (¬ h (f + 1) (32 + h (w + 33) g) = 0 ∧ h (w + 31) (h (w + 33) g) = 0) ∨ h (r + 1) (h (w + 33) g) = 0))) nN h) : Cl_ yX5_isLapsed MX5_isLapsed d bc bs [(2, r), (0, g)] nN h Q := by
  refine s_enter pn_X5 rfl (Nat.le_of_ble_eq_true rfl) (L := [(2, _), (0, _), (9, 0)]) rfl ?_
  refine s_aload_n dX5_isLapsed_0 rfl ?_
  refine s_getr dX5_isLapsed_1 fl_X5_46 kl_4 (by decide) rfl A (z := 14) rfl (by first | exact hw | (simp (disch := omega) only [hs_same, hs_ne, fl_in, fl_ne, cp_inn, cp_nee]; exact hw)) (W).1 ?_
  refine s_getr dX5_isLapsed_4 fl_X5_130 kl_5 (by decide) rfl W (z := 9) rfl (rf_5_9 hG.1 W) (rk_5_9 W).1 ?_
  refine s_iload_n dX5_isLapsed_7 rfl ?_
  refine s_iaload dX5_isLapsed_8 (rk_5_9 W) (by omega) (by omega) ?_
  refine s_istore_n dX5_isLapsed_9 (by decide) rfl (L' := [_, _, _]) rfl ?_
  refine s_aload_n dX5_isLapsed_10 rfl ?_
  refine s_getr dX5_isLapsed_11 fl_X5_50 kl_4 (by decide) rfl A (z := 15) rfl (by first | exact hf | (simp (disch := omega) only [hs_same, hs_ne, fl_in, fl_ne, cp_inn, cp_nee]; exact hf)) (F).1 ?_
  refine s_iload_n dX5_isLapsed_14 rfl ?_
  refine s_callV (d' := d - 1) (bc' := 0) (bs' := 0) (as := [_]) dX5_isLapsed_15 vf_X5_133 (dd_ (by omega) (by decide)) ⟨Nat.zero_le _, Nat.zero_le _⟩ rfl rfl (Nat.le_of_ble_eq_true rfl) kl_1 rfl F ?_
  refine c_X2_isRenounced F hG (by omega) (by omega) ?_
  refine s_if_ne (tgt := 53) dX5_isLapsed_18 (by decide) (by first | exact hG.2 _ _ | exact b01_in _ | assumption | exact ⟨by omega, by omega⟩) (fun c1 => ?_) (fun c1 => ?_)
  · have c1 := b01_n.mp c1
    refine s_iconst dX5_isLapsed_53 ?_
    refine s_goto (tgt := 58) dX5_isLapsed_54 (by decide) ?_
    refine s_zreturn dX5_isLapsed_58 rfl (by first | exact Or.inl rfl | exact Or.inr rfl) ?_
    first | (rw [b01_t (c := ¬ h (f + 1) (44 + g) = 0 ∨ (¬ h (f + 1) (32 + h (w + 33) g) = 0 ∧ h (w + 31) (h (w + 33) g) = 0) ∨ h (r + 1) (h (w + 33) g) = 0) (by first | exact c1 | omega)] at k; exact k) | (rw [b01_f (c := ¬ h (f + 1) (44 + g) = 0 ∨ (¬ h (f + 1) (32 + h (w + 33) g) = 0 ∧ h (w + 31) (h (w + 33) g) = 0) ∨ h (r + 1) (h (w + 33) g) = 0) (by first | exact c1 | omega)] at k; exact k)
  · have c1 := b01_0.mp c1
    refine s_aload_n dX5_isLapsed_21 rfl ?_
    refine s_getr dX5_isLapsed_22 fl_X5_50 kl_4 (by decide) rfl A (z := 15) rfl (by first | exact hf | (simp (disch := omega) only [hs_same, hs_ne, fl_in, fl_ne, cp_inn, cp_nee]; exact hf)) (F).1 ?_
    refine s_iload_n dX5_isLapsed_25 rfl ?_
    refine s_callV (d' := d - 1) (bc' := 0) (bs' := 0) (as := [_]) dX5_isLapsed_26 vf_X5_116 (dd_ (by omega) (by decide)) ⟨Nat.zero_le _, Nat.zero_le _⟩ rfl rfl (Nat.le_of_ble_eq_true rfl) kl_1 rfl F ?_
    refine c_X2_isDead F hG (by omega) (by omega) ?_
    refine s_if_eq (tgt := 44) dX5_isLapsed_29 (by decide) (by first | exact hG.2 _ _ | exact b01_in _ | assumption | exact ⟨by omega, by omega⟩) (fun c2 => ?_) (fun c2 => ?_)
    · have c2 := b01_0.mp c2
      refine s_aload_n dX5_isLapsed_44 rfl ?_
      refine s_getr dX5_isLapsed_45 fl_X5_9 kl_4 (by decide) rfl A (z := 0) rfl (rf_4_0 hG.1 A) (rk_4_0 A).1 ?_
      refine s_iload_n dX5_isLapsed_48 rfl ?_
      refine s_iaload dX5_isLapsed_49 (rk_4_0 A) (by omega) (by omega) ?_
      refine s_if_ne (tgt := 57) dX5_isLapsed_50 (by decide) (by first | exact hG.2 _ _ | exact b01_in _ | assumption | exact ⟨by omega, by omega⟩) (fun c3 => ?_) (fun c3 => ?_)
      · refine s_iconst dX5_isLapsed_57 ?_
        refine s_zreturn dX5_isLapsed_58 rfl (by first | exact Or.inl rfl | exact Or.inr rfl) ?_
        first | (rw [b01_t (c := ¬ h (f + 1) (44 + g) = 0 ∨ (¬ h (f + 1) (32 + h (w + 33) g) = 0 ∧ h (w + 31) (h (w + 33) g) = 0) ∨ h (r + 1) (h (w + 33) g) = 0) (by first | exact c3 | omega)] at k; exact k) | (rw [b01_f (c := ¬ h (f + 1) (44 + g) = 0 ∨ (¬ h (f + 1) (32 + h (w + 33) g) = 0 ∧ h (w + 31) (h (w + 33) g) = 0) ∨ h (r + 1) (h (w + 33) g) = 0) (by first | exact c3 | omega)] at k; exact k)
      · refine s_iconst dX5_isLapsed_53 ?_
        refine s_goto (tgt := 58) dX5_isLapsed_54 (by decide) ?_
        refine s_zreturn dX5_isLapsed_58 rfl (by first | exact Or.inl rfl | exact Or.inr rfl) ?_
        first | (rw [b01_t (c := ¬ h (f + 1) (44 + g) = 0 ∨ (¬ h (f + 1) (32 + h (w + 33) g) = 0 ∧ h (w + 31) (h (w + 33) g) = 0) ∨ h (r + 1) (h (w + 33) g) = 0) (by first | exact c3 | omega)] at k; exact k) | (rw [b01_f (c := ¬ h (f + 1) (44 + g) = 0 ∨ (¬ h (f + 1) (32 + h (w + 33) g) = 0 ∧ h (w + 31) (h (w + 33) g) = 0) ∨ h (r + 1) (h (w + 33) g) = 0) (by first | exact c3 | omega)] at k; exact k)
    · have c2 := b01_n.mp c2
      refine s_aload_n dX5_isLapsed_32 rfl ?_
      refine s_getr dX5_isLapsed_33 fl_X5_46 kl_4 (by decide) rfl A (z := 14) rfl (by first | exact hw | (simp (disch := omega) only [hs_same, hs_ne, fl_in, fl_ne, cp_inn, cp_nee]; exact hw)) (W).1 ?_
      refine s_getr dX5_isLapsed_36 fl_X5_136 kl_5 (by decide) rfl W (z := 6) rfl (rf_5_6 hG.1 W) (rk_5_6 W).1 ?_
      refine s_iload_n dX5_isLapsed_39 rfl ?_
      refine s_baload2 dX5_isLapsed_40 (rk_5_6 W) (by omega) (by omega) ?_
      refine s_if_eq (tgt := 53) dX5_isLapsed_41 (by decide) (by first | exact hG.2 _ _ | exact b01_in _ | assumption | exact ⟨by omega, by omega⟩) (fun c4 => ?_) (fun c4 => ?_)
      · refine s_iconst dX5_isLapsed_53 ?_
        refine s_goto (tgt := 58) dX5_isLapsed_54 (by decide) ?_
        refine s_zreturn dX5_isLapsed_58 rfl (by first | exact Or.inl rfl | exact Or.inr rfl) ?_
        first | (rw [b01_t (c := ¬ h (f + 1) (44 + g) = 0 ∨ (¬ h (f + 1) (32 + h (w + 33) g) = 0 ∧ h (w + 31) (h (w + 33) g) = 0) ∨ h (r + 1) (h (w + 33) g) = 0) (by first | exact c4 | omega)] at k; exact k) | (rw [b01_f (c := ¬ h (f + 1) (44 + g) = 0 ∨ (¬ h (f + 1) (32 + h (w + 33) g) = 0 ∧ h (w + 31) (h (w + 33) g) = 0) ∨ h (r + 1) (h (w + 33) g) = 0) (by first | exact c4 | omega)] at k; exact k)
      · refine s_aload_n dX5_isLapsed_44 rfl ?_
        refine s_getr dX5_isLapsed_45 fl_X5_9 kl_4 (by decide) rfl A (z := 0) rfl (rf_4_0 hG.1 A) (rk_4_0 A).1 ?_
        refine s_iload_n dX5_isLapsed_48 rfl ?_
        refine s_iaload dX5_isLapsed_49 (rk_4_0 A) (by omega) (by omega) ?_
        refine s_if_ne (tgt := 57) dX5_isLapsed_50 (by decide) (by first | exact hG.2 _ _ | exact b01_in _ | assumption | exact ⟨by omega, by omega⟩) (fun c5 => ?_) (fun c5 => ?_)
        · refine s_iconst dX5_isLapsed_57 ?_
          refine s_zreturn dX5_isLapsed_58 rfl (by first | exact Or.inl rfl | exact Or.inr rfl) ?_
          first | (rw [b01_t (c := ¬ h (f + 1) (44 + g) = 0 ∨ (¬ h (f + 1) (32 + h (w + 33) g) = 0 ∧ h (w + 31) (h (w + 33) g) = 0) ∨ h (r + 1) (h (w + 33) g) = 0) (by first | exact c5 | omega)] at k; exact k) | (rw [b01_f (c := ¬ h (f + 1) (44 + g) = 0 ∨ (¬ h (f + 1) (32 + h (w + 33) g) = 0 ∧ h (w + 31) (h (w + 33) g) = 0) ∨ h (r + 1) (h (w + 33) g) = 0) (by first | exact c5 | omega)] at k; exact k)
        · refine s_iconst dX5_isLapsed_53 ?_
          refine s_goto (tgt := 58) dX5_isLapsed_54 (by decide) ?_
          refine s_zreturn dX5_isLapsed_58 rfl (by first | exact Or.inl rfl | exact Or.inr rfl) ?_
          first | (rw [b01_t (c := ¬ h (f + 1) (44 + g) = 0 ∨ (¬ h (f + 1) (32 + h (w + 33) g) = 0 ∧ h (w + 31) (h (w + 33) g) = 0) ∨ h (r + 1) (h (w + 33) g) = 0) (by first | exact c5 | omega)] at k; exact k) | (rw [b01_f (c := ¬ h (f + 1) (44 + g) = 0 ∨ (¬ h (f + 1) (32 + h (w + 33) g) = 0 ∧ h (w + 31) (h (w + 33) g) = 0) ∨ h (r + 1) (h (w + 33) g) = 0) (by first | exact c5 | omega)] at k; exact k)
set_option maxRecDepth 100000 in
set_option maxHeartbeats 4000000 in
theorem c_X5_isLivingIssue {p q : Int} (A : isO nN r 4) (hG : G h) (hw : h r 14 = w) (W : isO nN w 5) (q0 : 0 ≤ p) (q1 : p < 12) (hq : inI q) (k : Q.1 (some (0, b01 (h (w + 29) p = q ∧ 0 < h (r + 1) p))) nN h) : Cl_ yX5_isLivingIssue MX5_isLivingIssue d bc bs [(2, r), (0, p), (0, q)] nN h Q := by
  refine s_enter pn_X5 rfl (Nat.le_of_ble_eq_true rfl) (L := [(2, _), (0, _), (0, _)]) rfl ?_
  refine s_aload_n dX5_isLivingIssue_0 rfl ?_
  refine s_getr dX5_isLivingIssue_1 fl_X5_46 kl_4 (by decide) rfl A (z := 14) rfl (by first | exact hw | (simp (disch := omega) only [hs_same, hs_ne, fl_in, fl_ne, cp_inn, cp_nee]; exact hw)) (W).1 ?_
  refine s_getr dX5_isLivingIssue_4 fl_X5_121 kl_5 (by decide) rfl W (z := 4) rfl (rf_5_4 hG.1 W) (rk_5_4 W).1 ?_
  refine s_iload_n dX5_isLivingIssue_7 rfl ?_
  refine s_iaload dX5_isLivingIssue_8 (rk_5_4 W) (by omega) (by omega) ?_
  refine s_iload_n dX5_isLivingIssue_9 rfl ?_
  refine s_icmp_ne (tgt := 26) dX5_isLivingIssue_10 (by decide) (by first | exact hG.2 _ _ | exact b01_in _ | assumption | exact ⟨by omega, by omega⟩) (by first | exact hG.2 _ _ | exact b01_in _ | assumption | exact ⟨by omega, by omega⟩) (fun c1 => ?_) (fun c1 => ?_)
  · refine s_iconst dX5_isLivingIssue_26 ?_
    refine s_zreturn dX5_isLivingIssue_27 rfl (by first | exact Or.inl rfl | exact Or.inr rfl) ?_
    first | (rw [b01_t (c := h (w + 29) p = q ∧ 0 < h (r + 1) p) (by first | exact c1 | omega)] at k; exact k) | (rw [b01_f (c := h (w + 29) p = q ∧ 0 < h (r + 1) p) (by first | exact c1 | omega)] at k; exact k)
  · refine s_aload_n dX5_isLivingIssue_13 rfl ?_
    refine s_getr dX5_isLivingIssue_14 fl_X5_9 kl_4 (by decide) rfl A (z := 0) rfl (rf_4_0 hG.1 A) (rk_4_0 A).1 ?_
    refine s_iload_n dX5_isLivingIssue_17 rfl ?_
    refine s_iaload dX5_isLivingIssue_18 (rk_4_0 A) (by omega) (by omega) ?_
    refine s_if_le (tgt := 26) dX5_isLivingIssue_19 (by decide) (by first | exact hG.2 _ _ | exact b01_in _ | assumption | exact ⟨by omega, by omega⟩) (fun c2 => ?_) (fun c2 => ?_)
    · refine s_iconst dX5_isLivingIssue_26 ?_
      refine s_zreturn dX5_isLivingIssue_27 rfl (by first | exact Or.inl rfl | exact Or.inr rfl) ?_
      first | (rw [b01_t (c := h (w + 29) p = q ∧ 0 < h (r + 1) p) (by first | exact c2 | omega)] at k; exact k) | (rw [b01_f (c := h (w + 29) p = q ∧ 0 < h (r + 1) p) (by first | exact c2 | omega)] at k; exact k)
    · refine s_iconst dX5_isLivingIssue_22 ?_
      refine s_goto (tgt := 27) dX5_isLivingIssue_23 (by decide) ?_
      refine s_zreturn dX5_isLivingIssue_27 rfl (by first | exact Or.inl rfl | exact Or.inr rfl) ?_
      first | (rw [b01_t (c := h (w + 29) p = q ∧ 0 < h (r + 1) p) (by first | exact c2 | omega)] at k; exact k) | (rw [b01_f (c := h (w + 29) p = q ∧ 0 < h (r + 1) p) (by first | exact c2 | omega)] at k; exact k)
set_option maxRecDepth 100000 in
set_option maxHeartbeats 4000000 in
theorem lp_X5_sumOf {b x y : Int} (B : isA nN b 0 7) (hG : G h) (x0 : 0 ≤ x) (y1 : y < 7) : ∀ (m : Nat) (i acc : Int), (0 ≤ i) → (i + m = y + 1) → (∀ z, z = acc + sumI (fun j => h b j) i m → Q.1 (some (0, z)) nN h) → S_ MX5_sumOf d bc bs Q 5 [(2, b), (0, x), (0, y), (0, acc), (0, i)] [] nN h := by
  intro m
  induction m with
  | zero =>
    intro i acc i0 i1 k
    refine s_iload dX5_sumOf_5 rfl ?_
    refine s_iload_n dX5_sumOf_7 rfl ?_
    refine s_icmp_gt (tgt := 24) dX5_sumOf_8 (by decide) (by first | exact hG.2 _ _ | exact b01_in _ | assumption | exact ⟨by omega, by omega⟩) (by first | exact hG.2 _ _ | exact b01_in _ | assumption | exact ⟨by omega, by omega⟩) (fun c1 => ?_) (fun c1 => ?_)
    · refine s_iload_n dX5_sumOf_24 rfl ?_
      exact s_ireturn dX5_sumOf_25 rfl (k _ (by simp [sumI]))
    · exact absurd c1 (by omega)
  | succ m ih =>
    intro i acc i0 i1 k
    refine s_iload dX5_sumOf_5 rfl ?_
    refine s_iload_n dX5_sumOf_7 rfl ?_
    refine s_icmp_gt (tgt := 24) dX5_sumOf_8 (by decide) (by first | exact hG.2 _ _ | exact b01_in _ | assumption | exact ⟨by omega, by omega⟩) (by first | exact hG.2 _ _ | exact b01_in _ | assumption | exact ⟨by omega, by omega⟩) (fun c1 => ?_) (fun c1 => ?_)
    · exact absurd c1 (by omega)
    · refine s_iload_n dX5_sumOf_11 rfl ?_
      refine s_aload_n dX5_sumOf_12 rfl ?_
      refine s_iload dX5_sumOf_13 rfl ?_
      refine s_iaload dX5_sumOf_15 B (by omega) (by omega) ?_
      refine s_iadd dX5_sumOf_16 ?_
      refine s_istore_n dX5_sumOf_17 (by decide) rfl (L' := [_, _, _, _, _]) rfl ?_
      refine s_iinc dX5_sumOf_18 rfl (by decide) rfl (L' := [_, _, _, _, _]) rfl ?_
      refine s_goto (tgt := 5) dX5_sumOf_21 (by decide) ?_
      exact ih (i + 1) _ (by omega) (by omega) (fun z e => k z (by rw [e]; simp only [sumI]; omega))
set_option maxRecDepth 100000 in
set_option maxHeartbeats 4000000 in
theorem c_X5_sumOf {b x y : Int} (B : isA nN b 0 7) (hG : G h) (x0 : 0 ≤ x) (xy : x ≤ y + 1) (y1 : y < 7) (k : Q.1 (some (0, sumI (fun j => h b j) x (y + 1 - x).toNat)) nN h) : Cl_ yX5_sumOf MX5_sumOf d bc bs [(2, b), (0, x), (0, y)] nN h Q := by
  refine s_enter pn_X5 rfl (Nat.le_of_ble_eq_true rfl) (L := [(2, _), (0, _), (0, _), (9, 0), (9, 0)]) rfl ?_
  refine s_iconst dX5_sumOf_0 ?_
  refine s_istore_n dX5_sumOf_1 (by decide) rfl (L' := [_, _, _, _, _]) rfl ?_
  refine s_iload_n dX5_sumOf_2 rfl ?_
  refine s_istore dX5_sumOf_3 (by decide) rfl (L' := [_, _, _, _, _]) rfl ?_
  exact lp_X5_sumOf B hG x0 y1 (y + 1 - x).toNat x 0 (by omega) (by omega) (fun z e => by rw [e, Int.zero_add]; exact k)
set_option maxRecDepth 100000 in
set_option maxHeartbeats 4000000 in
theorem c_X5_gotIn {g x y : Int} (hd : 2 ≤ d) (A : isO nN r 4) (hG : G h) (q0 : 0 ≤ g) (q1 : g < 12) (x0 : 0 ≤ x) (xy : x ≤ y + 1) (y1 : y < 7) (k : Q.1 (some (0, sumI (fun j => h (r + 17 + 1 + g) j) x (y + 1 - x).toNat)) nN h) : Cl_ yX5_gotIn MX5_gotIn d bc bs [(2, r), (0, g), (0, x), (0, y)] nN h Q := by
  refine s_enter pn_X5 rfl (Nat.le_of_ble_eq_true rfl) (L := [(2, _), (0, _), (0, _), (0, _)]) rfl ?_
  refine s_aload_n dX5_gotIn_0 rfl ?_
  refine s_getr dX5_gotIn_1 fl_X5_27 kl_4 (by decide) rfl A (z := 4) rfl (rf_4_4 hG.1 A) (rk_4_4 A).1 ?_
  refine s_iload_n dX5_gotIn_4 rfl ?_
  refine s_aaload4 dX5_gotIn_5 (rk_4_4 A) (by omega) (by omega) (rw_4_4 hG.1 A (by omega) (by omega)) (rx_4_4 A (by omega) (by omega)).1 ?_
  refine s_iload_n dX5_gotIn_6 rfl ?_
  refine s_iload_n dX5_gotIn_7 rfl ?_
  refine s_callS (d' := d - 1) (bc' := 0) (bs' := 0) (as := [_, _, _]) dX5_gotIn_8 sf_X5_222 (dd_ (by omega) (by decide)) ⟨Nat.zero_le _, Nat.zero_le _⟩ rfl rfl (Nat.le_of_ble_eq_true rfl) ?_
  refine c_X5_sumOf (rx_4_4 A (by omega) (by omega)) hG (by omega) (by omega) (by omega) ?_
  exact s_ireturn dX5_gotIn_11 rfl k
set_option maxRecDepth 100000 in
set_option maxHeartbeats 4000000 in
theorem lp_X5_sumOfGifts4 {c : Int} (A : isO nN r 4) (hG : G h) (hw : h r 14 = w) (W : isO nN w 5) (g0 : 0 ≤ h w 7) (g9 : h w 7 ≤ 12) (c0 : 0 ≤ c) (c1 : c < 7) : ∀ (m : Nat) (i acc : Int), (0 ≤ i) → (i + m = h w 7) → (∀ z, z = acc + sumI (fun g => h (r + 4 + 1 + g) c) i m → Q.1 (some (0, z)) nN h) → S_ MX5_sumOfGifts d bc bs Q 5 [(2, r), (2, r + 4), (0, c), (0, acc), (0, i)] [] nN h := by
  intro m
  induction m with
  | zero =>
    intro i acc i0 i1 k
    refine s_iload dX5_sumOfGifts_5 rfl ?_
    refine s_aload_n dX5_sumOfGifts_7 rfl ?_
    refine s_getr dX5_sumOfGifts_8 fl_X5_46 kl_4 (by decide) rfl A (z := 14) rfl (by first | exact hw | (simp (disch := omega) only [hs_same, hs_ne, fl_in, fl_ne, cp_inn, cp_nee]; exact hw)) (W).1 ?_
    refine s_geti dX5_sumOfGifts_11 fl_X5_63 kl_5 (by decide) rfl W (z := 7) rfl ?_
    refine s_icmp_ge (tgt := 32) dX5_sumOfGifts_14 (by decide) (by first | exact hG.2 _ _ | exact b01_in _ | assumption | exact ⟨by omega, by omega⟩) (by first | exact hG.2 _ _ | exact b01_in _ | assumption | exact ⟨by omega, by omega⟩) (fun c1 => ?_) (fun c1 => ?_)
    · refine s_iload_n dX5_sumOfGifts_32 rfl ?_
      exact s_ireturn dX5_sumOfGifts_33 rfl (k _ (by simp [sumI]))
    · exact absurd c1 (by omega)
  | succ m ih =>
    intro i acc i0 i1 k
    refine s_iload dX5_sumOfGifts_5 rfl ?_
    refine s_aload_n dX5_sumOfGifts_7 rfl ?_
    refine s_getr dX5_sumOfGifts_8 fl_X5_46 kl_4 (by decide) rfl A (z := 14) rfl (by first | exact hw | (simp (disch := omega) only [hs_same, hs_ne, fl_in, fl_ne, cp_inn, cp_nee]; exact hw)) (W).1 ?_
    refine s_geti dX5_sumOfGifts_11 fl_X5_63 kl_5 (by decide) rfl W (z := 7) rfl ?_
    refine s_icmp_ge (tgt := 32) dX5_sumOfGifts_14 (by decide) (by first | exact hG.2 _ _ | exact b01_in _ | assumption | exact ⟨by omega, by omega⟩) (by first | exact hG.2 _ _ | exact b01_in _ | assumption | exact ⟨by omega, by omega⟩) (fun c1 => ?_) (fun c1 => ?_)
    · exact absurd c1 (by omega)
    · refine s_iload_n dX5_sumOfGifts_17 rfl ?_
      refine s_aload_n dX5_sumOfGifts_18 rfl ?_
      refine s_iload dX5_sumOfGifts_19 rfl ?_
      refine s_aaload4 dX5_sumOfGifts_21 (rk_4_3 A) (by omega) (by omega) (rw_4_3 hG.1 A (by omega) (by omega)) (rx_4_3 A (by omega) (by omega)).1 ?_
      refine s_iload_n dX5_sumOfGifts_22 rfl ?_
      refine s_iaload dX5_sumOfGifts_23 (rx_4_3 A (by omega) (by omega)) (by omega) (by omega) ?_
      refine s_iadd dX5_sumOfGifts_24 ?_
      refine s_istore_n dX5_sumOfGifts_25 (by decide) rfl (L' := [_, _, _, _, _]) rfl ?_
      refine s_iinc dX5_sumOfGifts_26 rfl (by decide) rfl (L' := [_, _, _, _, _]) rfl ?_
      refine s_goto (tgt := 5) dX5_sumOfGifts_29 (by decide) ?_
      exact ih (i + 1) _ (by omega) (by omega) (fun z e => k z (by rw [e]; simp only [sumI]; omega))
set_option maxRecDepth 100000 in
set_option maxHeartbeats 4000000 in
theorem c_X5_sumOfGifts4 {c : Int} (A : isO nN r 4) (hG : G h) (hw : h r 14 = w) (W : isO nN w 5) (g0 : 0 ≤ h w 7) (g9 : h w 7 ≤ 12) (c0 : 0 ≤ c) (c1 : c < 7) (k : Q.1 (some (0, sumI (fun g => h (r + 4 + 1 + g) c) 0 (h w 7).toNat)) nN h) : Cl_ yX5_sumOfGifts MX5_sumOfGifts d bc bs [(2, r), (2, r + 4), (0, c)] nN h Q := by
  refine s_enter pn_X5 rfl (Nat.le_of_ble_eq_true rfl) (L := [(2, _), (2, _), (0, _), (9, 0), (9, 0)]) rfl ?_
  refine s_iconst dX5_sumOfGifts_0 ?_
  refine s_istore_n dX5_sumOfGifts_1 (by decide) rfl (L' := [_, _, _, _, _]) rfl ?_
  refine s_iconst dX5_sumOfGifts_2 ?_
  refine s_istore dX5_sumOfGifts_3 (by decide) rfl (L' := [_, _, _, _, _]) rfl ?_
  exact lp_X5_sumOfGifts4 A hG hw W g0 g9 c0 c1 (h w 7).toNat 0 0 (by omega) (by omega) (fun z e => by rw [e, Int.zero_add]; exact k)
set_option maxRecDepth 100000 in
set_option maxHeartbeats 4000000 in
theorem c_X5_dueOfAll {c : Int} (hd : 2 ≤ d) (A : isO nN r 4) (hG : G h) (hw : h r 14 = w) (W : isO nN w 5) (g0 : 0 ≤ h w 7) (g9 : h w 7 ≤ 12) (c0 : 0 ≤ c) (c1 : c < 7) (k : Q.1 (some (0, sumI (fun g => h (r + 4 + 1 + g) c) 0 (h w 7).toNat)) nN h) : Cl_ yX5_dueOfAll MX5_dueOfAll d bc bs [(2, r), (0, c)] nN h Q := by
  refine s_enter pn_X5 rfl (Nat.le_of_ble_eq_true rfl) (L := [(2, _), (0, _)]) rfl ?_
  refine s_aload_n dX5_dueOfAll_0 rfl ?_
  refine s_aload_n dX5_dueOfAll_1 rfl ?_
  refine s_getr dX5_dueOfAll_2 fl_X5_24 kl_4 (by decide) rfl A (z := 3) rfl (rf_4_3 hG.1 A) (rk_4_3 A).1 ?_
  refine s_iload_n dX5_dueOfAll_5 rfl ?_
  refine s_callV (d' := d - 1) (bc' := 0) (bs' := 0) (as := [_, _]) dX5_dueOfAll_6 vf_X5_226 (dd_ (by omega) (by decide)) ⟨Nat.zero_le _, Nat.zero_le _⟩ rfl rfl (Nat.le_of_ble_eq_true rfl) kl_4 rfl A ?_
  refine c_X5_sumOfGifts4 A hG hw W g0 g9 c0 c1 ?_
  exact s_ireturn dX5_dueOfAll_9 rfl k
set_option maxRecDepth 100000 in
set_option maxHeartbeats 4000000 in
theorem lp_X5_sumOfGifts17 {c : Int} (A : isO nN r 4) (hG : G h) (hw : h r 14 = w) (W : isO nN w 5) (g0 : 0 ≤ h w 7) (g9 : h w 7 ≤ 12) (c0 : 0 ≤ c) (c1 : c < 7) : ∀ (m : Nat) (i acc : Int), (0 ≤ i) → (i + m = h w 7) → (∀ z, z = acc + sumI (fun g => h (r + 17 + 1 + g) c) i m → Q.1 (some (0, z)) nN h) → S_ MX5_sumOfGifts d bc bs Q 5 [(2, r), (2, r + 17), (0, c), (0, acc), (0, i)] [] nN h := by
  intro m
  induction m with
  | zero =>
    intro i acc i0 i1 k
    refine s_iload dX5_sumOfGifts_5 rfl ?_
    refine s_aload_n dX5_sumOfGifts_7 rfl ?_
    refine s_getr dX5_sumOfGifts_8 fl_X5_46 kl_4 (by decide) rfl A (z := 14) rfl (by first | exact hw | (simp (disch := omega) only [hs_same, hs_ne, fl_in, fl_ne, cp_inn, cp_nee]; exact hw)) (W).1 ?_
    refine s_geti dX5_sumOfGifts_11 fl_X5_63 kl_5 (by decide) rfl W (z := 7) rfl ?_
    refine s_icmp_ge (tgt := 32) dX5_sumOfGifts_14 (by decide) (by first | exact hG.2 _ _ | exact b01_in _ | assumption | exact ⟨by omega, by omega⟩) (by first | exact hG.2 _ _ | exact b01_in _ | assumption | exact ⟨by omega, by omega⟩) (fun c1 => ?_) (fun c1 => ?_)
    · refine s_iload_n dX5_sumOfGifts_32 rfl ?_
      exact s_ireturn dX5_sumOfGifts_33 rfl (k _ (by simp [sumI]))
    · exact absurd c1 (by omega)
  | succ m ih =>
    intro i acc i0 i1 k
    refine s_iload dX5_sumOfGifts_5 rfl ?_
    refine s_aload_n dX5_sumOfGifts_7 rfl ?_
    refine s_getr dX5_sumOfGifts_8 fl_X5_46 kl_4 (by decide) rfl A (z := 14) rfl (by first | exact hw | (simp (disch := omega) only [hs_same, hs_ne, fl_in, fl_ne, cp_inn, cp_nee]; exact hw)) (W).1 ?_
    refine s_geti dX5_sumOfGifts_11 fl_X5_63 kl_5 (by decide) rfl W (z := 7) rfl ?_
    refine s_icmp_ge (tgt := 32) dX5_sumOfGifts_14 (by decide) (by first | exact hG.2 _ _ | exact b01_in _ | assumption | exact ⟨by omega, by omega⟩) (by first | exact hG.2 _ _ | exact b01_in _ | assumption | exact ⟨by omega, by omega⟩) (fun c1 => ?_) (fun c1 => ?_)
    · exact absurd c1 (by omega)
    · refine s_iload_n dX5_sumOfGifts_17 rfl ?_
      refine s_aload_n dX5_sumOfGifts_18 rfl ?_
      refine s_iload dX5_sumOfGifts_19 rfl ?_
      refine s_aaload4 dX5_sumOfGifts_21 (rk_4_4 A) (by omega) (by omega) (rw_4_4 hG.1 A (by omega) (by omega)) (rx_4_4 A (by omega) (by omega)).1 ?_
      refine s_iload_n dX5_sumOfGifts_22 rfl ?_
      refine s_iaload dX5_sumOfGifts_23 (rx_4_4 A (by omega) (by omega)) (by omega) (by omega) ?_
      refine s_iadd dX5_sumOfGifts_24 ?_
      refine s_istore_n dX5_sumOfGifts_25 (by decide) rfl (L' := [_, _, _, _, _]) rfl ?_
      refine s_iinc dX5_sumOfGifts_26 rfl (by decide) rfl (L' := [_, _, _, _, _]) rfl ?_
      refine s_goto (tgt := 5) dX5_sumOfGifts_29 (by decide) ?_
      exact ih (i + 1) _ (by omega) (by omega) (fun z e => k z (by rw [e]; simp only [sumI]; omega))
set_option maxRecDepth 100000 in
set_option maxHeartbeats 4000000 in
theorem c_X5_sumOfGifts17 {c : Int} (A : isO nN r 4) (hG : G h) (hw : h r 14 = w) (W : isO nN w 5) (g0 : 0 ≤ h w 7) (g9 : h w 7 ≤ 12) (c0 : 0 ≤ c) (c1 : c < 7) (k : Q.1 (some (0, sumI (fun g => h (r + 17 + 1 + g) c) 0 (h w 7).toNat)) nN h) : Cl_ yX5_sumOfGifts MX5_sumOfGifts d bc bs [(2, r), (2, r + 17), (0, c)] nN h Q := by
  refine s_enter pn_X5 rfl (Nat.le_of_ble_eq_true rfl) (L := [(2, _), (2, _), (0, _), (9, 0), (9, 0)]) rfl ?_
  refine s_iconst dX5_sumOfGifts_0 ?_
  refine s_istore_n dX5_sumOfGifts_1 (by decide) rfl (L' := [_, _, _, _, _]) rfl ?_
  refine s_iconst dX5_sumOfGifts_2 ?_
  refine s_istore dX5_sumOfGifts_3 (by decide) rfl (L' := [_, _, _, _, _]) rfl ?_
  exact lp_X5_sumOfGifts17 A hG hw W g0 g9 c0 c1 (h w 7).toNat 0 0 (by omega) (by omega) (fun z e => by rw [e, Int.zero_add]; exact k)
set_option maxRecDepth 100000 in
set_option maxHeartbeats 4000000 in
theorem c_X5_gotByAll {c : Int} (hd : 2 ≤ d) (A : isO nN r 4) (hG : G h) (hw : h r 14 = w) (W : isO nN w 5) (g0 : 0 ≤ h w 7) (g9 : h w 7 ≤ 12) (c0 : 0 ≤ c) (c1 : c < 7) (k : Q.1 (some (0, sumI (fun g => h (r + 17 + 1 + g) c) 0 (h w 7).toNat)) nN h) : Cl_ yX5_gotByAll MX5_gotByAll d bc bs [(2, r), (0, c)] nN h Q := by
  refine s_enter pn_X5 rfl (Nat.le_of_ble_eq_true rfl) (L := [(2, _), (0, _)]) rfl ?_
  refine s_aload_n dX5_gotByAll_0 rfl ?_
  refine s_aload_n dX5_gotByAll_1 rfl ?_
  refine s_getr dX5_gotByAll_2 fl_X5_27 kl_4 (by decide) rfl A (z := 4) rfl (rf_4_4 hG.1 A) (rk_4_4 A).1 ?_
  refine s_iload_n dX5_gotByAll_5 rfl ?_
  refine s_callV (d' := d - 1) (bc' := 0) (bs' := 0) (as := [_, _]) dX5_gotByAll_6 vf_X5_226 (dd_ (by omega) (by decide)) ⟨Nat.zero_le _, Nat.zero_le _⟩ rfl rfl (Nat.le_of_ble_eq_true rfl) kl_4 rfl A ?_
  refine c_X5_sumOfGifts17 A hG hw W g0 g9 c0 c1 ?_
  exact s_ireturn dX5_gotByAll_9 rfl k
set_option maxRecDepth 100000 in
set_option maxHeartbeats 4000000 in
theorem lp_X5_dueUpTo {y : Int} (hd : 3 ≤ d) (A : isO nN r 4) (hG : G h) (hw : h r 14 = w) (W : isO nN w 5) (g0 : 0 ≤ h w 7) (g9 : h w 7 ≤ 12) (y0 : 0 ≤ y) (y1 : y < 7) : ∀ (m : Nat) (i acc : Int), (0 ≤ i) → (i + m = y + 1) → (∀ z, z = acc + sumI (fun c => sumI (fun g => h (r + 4 + 1 + g) c) 0 (h w 7).toNat) i m → Q.1 (some (0, z)) nN h) → S_ MX5_dueUpTo d bc bs Q 4 [(2, r), (0, y), (0, acc), (0, i)] [] nN h := by
  intro m
  induction m with
  | zero =>
    intro i acc i0 i1 k
    refine s_iload_n dX5_dueUpTo_4 rfl ?_
    refine s_iload_n dX5_dueUpTo_5 rfl ?_
    refine s_icmp_gt (tgt := 23) dX5_dueUpTo_6 (by decide) (by first | exact hG.2 _ _ | exact b01_in _ | assumption | exact ⟨by omega, by omega⟩) (by first | exact hG.2 _ _ | exact b01_in _ | assumption | exact ⟨by omega, by omega⟩) (fun c1 => ?_) (fun c1 => ?_)
    · refine s_iload_n dX5_dueUpTo_23 rfl ?_
      exact s_ireturn dX5_dueUpTo_24 rfl (k _ (by simp [sumI]))
    · exact absurd c1 (by omega)
  | succ m ih =>
    intro i acc i0 i1 k
    refine s_iload_n dX5_dueUpTo_4 rfl ?_
    refine s_iload_n dX5_dueUpTo_5 rfl ?_
    refine s_icmp_gt (tgt := 23) dX5_dueUpTo_6 (by decide) (by first | exact hG.2 _ _ | exact b01_in _ | assumption | exact ⟨by omega, by omega⟩) (by first | exact hG.2 _ _ | exact b01_in _ | assumption | exact ⟨by omega, by omega⟩) (fun c1 => ?_) (fun c1 => ?_)
    · exact absurd c1 (by omega)
    · refine s_iload_n dX5_dueUpTo_9 rfl ?_
      refine s_aload_n dX5_dueUpTo_10 rfl ?_
      refine s_iload_n dX5_dueUpTo_11 rfl ?_
      refine s_callV (d' := d - 1) (bc' := 0) (bs' := 0) (as := [_]) dX5_dueUpTo_12 vf_X5_201 (dd_ (by omega) (by decide)) ⟨Nat.zero_le _, Nat.zero_le _⟩ rfl rfl (Nat.le_of_ble_eq_true rfl) kl_4 rfl A ?_
      refine c_X5_dueOfAll (by omega) A hG hw W g0 g9 (by omega) (by omega) ?_
      refine s_iadd dX5_dueUpTo_15 ?_
      refine s_istore_n dX5_dueUpTo_16 (by decide) rfl (L' := [_, _, _, _]) rfl ?_
      refine s_iinc dX5_dueUpTo_17 rfl (by decide) rfl (L' := [_, _, _, _]) rfl ?_
      refine s_goto (tgt := 4) dX5_dueUpTo_20 (by decide) ?_
      exact ih (i + 1) _ (by omega) (by omega) (fun z e => k z (by rw [e]; simp only [sumI]; omega))
set_option maxRecDepth 100000 in
set_option maxHeartbeats 4000000 in
theorem c_X5_dueUpTo {y : Int} (hd : 3 ≤ d) (A : isO nN r 4) (hG : G h) (hw : h r 14 = w) (W : isO nN w 5) (g0 : 0 ≤ h w 7) (g9 : h w 7 ≤ 12) (y0 : 0 ≤ y) (y1 : y < 7) (k : Q.1 (some (0, sumI (fun c => sumI (fun g => h (r + 4 + 1 + g) c) 0 (h w 7).toNat) 0 (y + 1).toNat)) nN h) : Cl_ yX5_dueUpTo MX5_dueUpTo d bc bs [(2, r), (0, y)] nN h Q := by
  refine s_enter pn_X5 rfl (Nat.le_of_ble_eq_true rfl) (L := [(2, _), (0, _), (9, 0), (9, 0)]) rfl ?_
  refine s_iconst dX5_dueUpTo_0 ?_
  refine s_istore_n dX5_dueUpTo_1 (by decide) rfl (L' := [_, _, _, _]) rfl ?_
  refine s_iconst dX5_dueUpTo_2 ?_
  refine s_istore_n dX5_dueUpTo_3 (by decide) rfl (L' := [_, _, _, _]) rfl ?_
  exact lp_X5_dueUpTo hd A hG hw W g0 g9 y0 y1 (y + 1).toNat 0 0 (by omega) (by omega) (fun z e => by rw [e, Int.zero_add]; exact k)
set_option maxRecDepth 100000 in
set_option maxHeartbeats 4000000 in
theorem lp_X5_countDue {c : Int} (A : isO nN r 4) (hG : G h) (hw : h r 14 = w) (W : isO nN w 5) (g0 : 0 ≤ h w 7) (g9 : h w 7 ≤ 12) (c0 : 0 ≤ c) (c1 : c < 7) : ∀ (m : Nat) (i acc : Int), (0 ≤ i) → (i + m = h w 7) → (∀ z, z = acc + sumI (fun g => if 0 < h (r + 4 + 1 + g) c then 1 else 0) i m → Q.1 (some (0, z)) nN h) → S_ MX5_countDue d bc bs Q 4 [(2, r), (0, c), (0, acc), (0, i)] [] nN h := by
  intro m
  induction m with
  | zero =>
    intro i acc i0 i1 k
    refine s_iload_n dX5_countDue_4 rfl ?_
    refine s_aload_n dX5_countDue_5 rfl ?_
    refine s_getr dX5_countDue_6 fl_X5_46 kl_4 (by decide) rfl A (z := 14) rfl (by first | exact hw | (simp (disch := omega) only [hs_same, hs_ne, fl_in, fl_ne, cp_inn, cp_nee]; exact hw)) (W).1 ?_
    refine s_geti dX5_countDue_9 fl_X5_63 kl_5 (by decide) rfl W (z := 7) rfl ?_
    refine s_icmp_ge (tgt := 40) dX5_countDue_12 (by decide) (by first | exact hG.2 _ _ | exact b01_in _ | assumption | exact ⟨by omega, by omega⟩) (by first | exact hG.2 _ _ | exact b01_in _ | assumption | exact ⟨by omega, by omega⟩) (fun c1 => ?_) (fun c1 => ?_)
    · refine s_iload_n dX5_countDue_40 rfl ?_
      exact s_ireturn dX5_countDue_41 rfl (k _ (by simp [sumI]))
    · exact absurd c1 (by omega)
  | succ m ih =>
    intro i acc i0 i1 k
    refine s_iload_n dX5_countDue_4 rfl ?_
    refine s_aload_n dX5_countDue_5 rfl ?_
    refine s_getr dX5_countDue_6 fl_X5_46 kl_4 (by decide) rfl A (z := 14) rfl (by first | exact hw | (simp (disch := omega) only [hs_same, hs_ne, fl_in, fl_ne, cp_inn, cp_nee]; exact hw)) (W).1 ?_
    refine s_geti dX5_countDue_9 fl_X5_63 kl_5 (by decide) rfl W (z := 7) rfl ?_
    refine s_icmp_ge (tgt := 40) dX5_countDue_12 (by decide) (by first | exact hG.2 _ _ | exact b01_in _ | assumption | exact ⟨by omega, by omega⟩) (by first | exact hG.2 _ _ | exact b01_in _ | assumption | exact ⟨by omega, by omega⟩) (fun c1 => ?_) (fun c1 => ?_)
    · exact absurd c1 (by omega)
    · refine s_iload_n dX5_countDue_15 rfl ?_
      refine s_aload_n dX5_countDue_16 rfl ?_
      refine s_getr dX5_countDue_17 fl_X5_24 kl_4 (by decide) rfl A (z := 3) rfl (rf_4_3 hG.1 A) (rk_4_3 A).1 ?_
      refine s_iload_n dX5_countDue_20 rfl ?_
      refine s_aaload4 dX5_countDue_21 (rk_4_3 A) (by omega) (by omega) (rw_4_3 hG.1 A (by omega) (by omega)) (rx_4_3 A (by omega) (by omega)).1 ?_
      refine s_iload_n dX5_countDue_22 rfl ?_
      refine s_iaload dX5_countDue_23 (rx_4_3 A (by omega) (by omega)) (by omega) (by omega) ?_
      refine s_if_le (tgt := 31) dX5_countDue_24 (by decide) (by first | exact hG.2 _ _ | exact b01_in _ | assumption | exact ⟨by omega, by omega⟩) (fun c2 => ?_) (fun c2 => ?_)
      · refine s_iconst dX5_countDue_31 ?_
        refine s_iadd dX5_countDue_32 ?_
        refine s_istore_n dX5_countDue_33 (by decide) rfl (L' := [_, _, _, _]) rfl ?_
        refine s_iinc dX5_countDue_34 rfl (by decide) rfl (L' := [_, _, _, _]) rfl ?_
        refine s_goto (tgt := 4) dX5_countDue_37 (by decide) ?_
        exact ih (i + 1) _ (by omega) (by omega) (fun z e => k z (by rw [e]; simp only [sumI]; split <;> omega))
      · refine s_iconst dX5_countDue_27 ?_
        refine s_goto (tgt := 32) dX5_countDue_28 (by decide) ?_
        refine s_iadd dX5_countDue_32 ?_
        refine s_istore_n dX5_countDue_33 (by decide) rfl (L' := [_, _, _, _]) rfl ?_
        refine s_iinc dX5_countDue_34 rfl (by decide) rfl (L' := [_, _, _, _]) rfl ?_
        refine s_goto (tgt := 4) dX5_countDue_37 (by decide) ?_
        exact ih (i + 1) _ (by omega) (by omega) (fun z e => k z (by rw [e]; simp only [sumI]; split <;> omega))
set_option maxRecDepth 100000 in
set_option maxHeartbeats 4000000 in
theorem c_X5_countDue {c : Int} (A : isO nN r 4) (hG : G h) (hw : h r 14 = w) (W : isO nN w 5) (g0 : 0 ≤ h w 7) (g9 : h w 7 ≤ 12) (c0 : 0 ≤ c) (c1 : c < 7) (k : Q.1 (some (0, sumI (fun g => if 0 < h (r + 4 + 1 + g) c then 1 else 0) 0 (h w 7).toNat)) nN h) : Cl_ yX5_countDue MX5_countDue d bc bs [(2, r), (0, c)] nN h Q := by
  refine s_enter pn_X5 rfl (Nat.le_of_ble_eq_true rfl) (L := [(2, _), (0, _), (9, 0), (9, 0)]) rfl ?_
  refine s_iconst dX5_countDue_0 ?_
  refine s_istore_n dX5_countDue_1 (by decide) rfl (L' := [_, _, _, _]) rfl ?_
  refine s_iconst dX5_countDue_2 ?_
  refine s_istore_n dX5_countDue_3 (by decide) rfl (L' := [_, _, _, _]) rfl ?_
  exact lp_X5_countDue A hG hw W g0 g9 c0 c1 (h w 7).toNat 0 0 (by omega) (by omega) (fun z e => by rw [e, Int.zero_add]; exact k)
set_option maxRecDepth 100000 in
set_option maxHeartbeats 4000000 in
theorem lp_X5_countLapsed  (A : isO nN r 4) (hG : G h) (hw : h r 14 = w) (W : isO nN w 5) (g0 : 0 ≤ h w 7) (g9 : h w 7 ≤ 12) : ∀ (m : Nat) (i acc : Int), (0 ≤ i) → (i + m = h w 7) → (∀ z, z = acc + sumI (fun g => if h (r + 2) g = 0 then 0 else 1) i m → Q.1 (some (0, z)) nN h) → S_ MX5_countLapsed d bc bs Q 4 [(2, r), (0, acc), (0, i)] [] nN h := by
  intro m
  induction m with
  | zero =>
    intro i acc i0 i1 k
    refine s_iload_n dX5_countLapsed_4 rfl ?_
    refine s_aload_n dX5_countLapsed_5 rfl ?_
    refine s_getr dX5_countLapsed_6 fl_X5_46 kl_4 (by decide) rfl A (z := 14) rfl (by first | exact hw | (simp (disch := omega) only [hs_same, hs_ne, fl_in, fl_ne, cp_inn, cp_nee]; exact hw)) (W).1 ?_
    refine s_geti dX5_countLapsed_9 fl_X5_63 kl_5 (by decide) rfl W (z := 7) rfl ?_
    refine s_icmp_ge (tgt := 38) dX5_countLapsed_12 (by decide) (by first | exact hG.2 _ _ | exact b01_in _ | assumption | exact ⟨by omega, by omega⟩) (by first | exact hG.2 _ _ | exact b01_in _ | assumption | exact ⟨by omega, by omega⟩) (fun c1 => ?_) (fun c1 => ?_)
    · refine s_iload_n dX5_countLapsed_38 rfl ?_
      exact s_ireturn dX5_countLapsed_39 rfl (k _ (by simp [sumI]))
    · exact absurd c1 (by omega)
  | succ m ih =>
    intro i acc i0 i1 k
    refine s_iload_n dX5_countLapsed_4 rfl ?_
    refine s_aload_n dX5_countLapsed_5 rfl ?_
    refine s_getr dX5_countLapsed_6 fl_X5_46 kl_4 (by decide) rfl A (z := 14) rfl (by first | exact hw | (simp (disch := omega) only [hs_same, hs_ne, fl_in, fl_ne, cp_inn, cp_nee]; exact hw)) (W).1 ?_
    refine s_geti dX5_countLapsed_9 fl_X5_63 kl_5 (by decide) rfl W (z := 7) rfl ?_
    refine s_icmp_ge (tgt := 38) dX5_countLapsed_12 (by decide) (by first | exact hG.2 _ _ | exact b01_in _ | assumption | exact ⟨by omega, by omega⟩) (by first | exact hG.2 _ _ | exact b01_in _ | assumption | exact ⟨by omega, by omega⟩) (fun c1 => ?_) (fun c1 => ?_)
    · exact absurd c1 (by omega)
    · refine s_iload_n dX5_countLapsed_15 rfl ?_
      refine s_aload_n dX5_countLapsed_16 rfl ?_
      refine s_getr dX5_countLapsed_17 fl_X5_15 kl_4 (by decide) rfl A (z := 1) rfl (rf_4_1 hG.1 A) (rk_4_1 A).1 ?_
      refine s_iload_n dX5_countLapsed_20 rfl ?_
      refine s_baload2 dX5_countLapsed_21 (rk_4_1 A) (by omega) (by omega) ?_
      refine s_if_eq (tgt := 29) dX5_countLapsed_22 (by decide) (by first | exact hG.2 _ _ | exact b01_in _ | assumption | exact ⟨by omega, by omega⟩) (fun c2 => ?_) (fun c2 => ?_)
      · refine s_iconst dX5_countLapsed_29 ?_
        refine s_iadd dX5_countLapsed_30 ?_
        refine s_istore_n dX5_countLapsed_31 (by decide) rfl (L' := [_, _, _]) rfl ?_
        refine s_iinc dX5_countLapsed_32 rfl (by decide) rfl (L' := [_, _, _]) rfl ?_
        refine s_goto (tgt := 4) dX5_countLapsed_35 (by decide) ?_
        exact ih (i + 1) _ (by omega) (by omega) (fun z e => k z (by rw [e]; simp only [sumI]; split <;> omega))
      · refine s_iconst dX5_countLapsed_25 ?_
        refine s_goto (tgt := 30) dX5_countLapsed_26 (by decide) ?_
        refine s_iadd dX5_countLapsed_30 ?_
        refine s_istore_n dX5_countLapsed_31 (by decide) rfl (L' := [_, _, _]) rfl ?_
        refine s_iinc dX5_countLapsed_32 rfl (by decide) rfl (L' := [_, _, _]) rfl ?_
        refine s_goto (tgt := 4) dX5_countLapsed_35 (by decide) ?_
        exact ih (i + 1) _ (by omega) (by omega) (fun z e => k z (by rw [e]; simp only [sumI]; split <;> omega))
set_option maxRecDepth 100000 in
set_option maxHeartbeats 4000000 in
theorem c_X5_countLapsed  (A : isO nN r 4) (hG : G h) (hw : h r 14 = w) (W : isO nN w 5) (g0 : 0 ≤ h w 7) (g9 : h w 7 ≤ 12) (k : Q.1 (some (0, sumI (fun g => if h (r + 2) g = 0 then 0 else 1) 0 (h w 7).toNat)) nN h) : Cl_ yX5_countLapsed MX5_countLapsed d bc bs [(2, r)] nN h Q := by
  refine s_enter pn_X5 rfl (Nat.le_of_ble_eq_true rfl) (L := [(2, _), (9, 0), (9, 0)]) rfl ?_
  refine s_iconst dX5_countLapsed_0 ?_
  refine s_istore_n dX5_countLapsed_1 (by decide) rfl (L' := [_, _, _]) rfl ?_
  refine s_iconst dX5_countLapsed_2 ?_
  refine s_istore_n dX5_countLapsed_3 (by decide) rfl (L' := [_, _, _]) rfl ?_
  exact lp_X5_countLapsed A hG hw W g0 g9 (h w 7).toNat 0 0 (by omega) (by omega) (fun z e => by rw [e, Int.zero_add]; exact k)
set_option maxRecDepth 100000 in
set_option maxHeartbeats 4000000 in
theorem lp_X5_takenInAll {p : Int} (A : isO nN r 4) (hG : G h) (hw : h r 14 = w) (W : isO nN w 5) (g0 : 0 ≤ h w 7) (g9 : h w 7 ≤ 12) (q0 : 0 ≤ p) (q1 : p < 12) : ∀ (m : Nat) (i acc : Int), (0 ≤ i) → (i + m = h w 7) → (∀ z, z = acc + sumI (fun g => h (r + 30 + 1 + g) p) i m → Q.1 (some (0, z)) nN h) → S_ MX5_takenInAll d bc bs Q 9 [(2, r), (0, p), (0, acc), (0, i)] [] nN h := by
  intro m
  induction m with
  | zero =>
    intro i acc i0 i1 k
    refine s_iload_n dX5_takenInAll_9 rfl ?_
    refine s_aload_n dX5_takenInAll_10 rfl ?_
    refine s_getr dX5_takenInAll_11 fl_X5_46 kl_4 (by decide) rfl A (z := 14) rfl (by first | exact hw | (simp (disch := omega) only [hs_same, hs_ne, fl_in, fl_ne, cp_inn, cp_nee]; exact hw)) (W).1 ?_
    refine s_geti dX5_takenInAll_14 fl_X5_63 kl_5 (by decide) rfl W (z := 7) rfl ?_
    refine s_icmp_ge (tgt := 37) dX5_takenInAll_17 (by decide) (by first | exact hG.2 _ _ | exact b01_in _ | assumption | exact ⟨by omega, by omega⟩) (by first | exact hG.2 _ _ | exact b01_in _ | assumption | exact ⟨by omega, by omega⟩) (fun c1 => ?_) (fun c1 => ?_)
    · refine s_iload_n dX5_takenInAll_37 rfl ?_
      exact s_ireturn dX5_takenInAll_38 rfl (k _ (by simp [sumI]))
    · exact absurd c1 (by omega)
  | succ m ih =>
    intro i acc i0 i1 k
    refine s_iload_n dX5_takenInAll_9 rfl ?_
    refine s_aload_n dX5_takenInAll_10 rfl ?_
    refine s_getr dX5_takenInAll_11 fl_X5_46 kl_4 (by decide) rfl A (z := 14) rfl (by first | exact hw | (simp (disch := omega) only [hs_same, hs_ne, fl_in, fl_ne, cp_inn, cp_nee]; exact hw)) (W).1 ?_
    refine s_geti dX5_takenInAll_14 fl_X5_63 kl_5 (by decide) rfl W (z := 7) rfl ?_
    refine s_icmp_ge (tgt := 37) dX5_takenInAll_17 (by decide) (by first | exact hG.2 _ _ | exact b01_in _ | assumption | exact ⟨by omega, by omega⟩) (by first | exact hG.2 _ _ | exact b01_in _ | assumption | exact ⟨by omega, by omega⟩) (fun c1 => ?_) (fun c1 => ?_)
    · exact absurd c1 (by omega)
    · refine s_iload_n dX5_takenInAll_20 rfl ?_
      refine s_aload_n dX5_takenInAll_21 rfl ?_
      refine s_getr dX5_takenInAll_22 fl_X5_30 kl_4 (by decide) rfl A (z := 5) rfl (rf_4_5 hG.1 A) (rk_4_5 A).1 ?_
      refine s_iload_n dX5_takenInAll_25 rfl ?_
      refine s_aaload4 dX5_takenInAll_26 (rk_4_5 A) (by omega) (by omega) (rw_4_5 hG.1 A (by omega) (by omega)) (rx_4_5 A (by omega) (by omega)).1 ?_
      refine s_iload_n dX5_takenInAll_27 rfl ?_
      refine s_iaload dX5_takenInAll_28 (rx_4_5 A (by omega) (by omega)) (by omega) (by omega) ?_
      refine s_iadd dX5_takenInAll_29 ?_
      refine s_istore_n dX5_takenInAll_30 (by decide) rfl (L' := [_, _, _, _]) rfl ?_
      refine s_iinc dX5_takenInAll_31 rfl (by decide) rfl (L' := [_, _, _, _]) rfl ?_
      refine s_goto (tgt := 9) dX5_takenInAll_34 (by decide) ?_
      exact ih (i + 1) _ (by omega) (by omega) (fun z e => k z (by rw [e]; simp only [sumI]; omega))
/-- what a person takes in all -/
def tk_ (h : PH) (r w p : Int) : Int := h (r + 43) p + sumI (fun g => h (r + 30 + 1 + g) p) 0 (h w 7).toNat
set_option maxRecDepth 100000 in
set_option maxHeartbeats 4000000 in
theorem c_X5_takenInAll {p : Int} (A : isO nN r 4) (hG : G h) (hw : h r 14 = w) (W : isO nN w 5) (g0 : 0 ≤ h w 7) (g9 : h w 7 ≤ 12) (q0 : 0 ≤ p) (q1 : p < 12) (k : Q.1 (some (0, tk_ h r w p)) nN h) : Cl_ yX5_takenInAll MX5_takenInAll d bc bs [(2, r), (0, p)] nN h Q := by
  refine s_enter pn_X5 rfl (Nat.le_of_ble_eq_true rfl) (L := [(2, _), (0, _), (9, 0), (9, 0)]) rfl ?_
  refine s_aload_n dX5_takenInAll_0 rfl ?_
  refine s_getr dX5_takenInAll_1 fl_X5_33 kl_4 (by decide) rfl A (z := 6) rfl (rf_4_6 hG.1 A) (rk_4_6 A).1 ?_
  refine s_iload_n dX5_takenInAll_4 rfl ?_
  refine s_iaload dX5_takenInAll_5 (rk_4_6 A) (by omega) (by omega) ?_
  refine s_istore_n dX5_takenInAll_6 (by decide) rfl (L' := [_, _, _, _]) rfl ?_
  refine s_iconst dX5_takenInAll_7 ?_
  refine s_istore_n dX5_takenInAll_8 (by decide) rfl (L' := [_, _, _, _]) rfl ?_
  exact lp_X5_takenInAll A hG hw W g0 g9 q0 q1 (h w 7).toNat 0 _ (by omega) (by omega) (fun z e => by rw [e]; exact k)
set_option maxRecDepth 100000 in
set_option maxHeartbeats 4000000 in
theorem lp_X5_takenOfOthers {p : Int} (A : isO nN r 4) (hG : G h) (hw : h r 14 = w) (W : isO nN w 5) (g0 : 0 ≤ h w 7) (g9 : h w 7 ≤ 12) (q0 : 0 ≤ p) (q1 : p < 12) : ∀ (m : Nat) (i acc : Int), (0 ≤ i) → (i + m = h w 7) → (∀ z, z = acc + sumI (fun g => if h (w + 33) g = p then 0 else h (r + 30 + 1 + g) p) i m → Q.1 (some (0, z)) nN h) → S_ MX5_takenOfOthers d bc bs Q 4 [(2, r), (0, p), (0, acc), (0, i)] [] nN h := by
  intro m
  induction m with
  | zero =>
    intro i acc i0 i1 k
    refine s_iload_n dX5_takenOfOthers_4 rfl ?_
    refine s_aload_n dX5_takenOfOthers_5 rfl ?_
    refine s_getr dX5_takenOfOthers_6 fl_X5_46 kl_4 (by decide) rfl A (z := 14) rfl (by first | exact hw | (simp (disch := omega) only [hs_same, hs_ne, fl_in, fl_ne, cp_inn, cp_nee]; exact hw)) (W).1 ?_
    refine s_geti dX5_takenOfOthers_9 fl_X5_63 kl_5 (by decide) rfl W (z := 7) rfl ?_
    refine s_icmp_ge (tgt := 49) dX5_takenOfOthers_12 (by decide) (by first | exact hG.2 _ _ | exact b01_in _ | assumption | exact ⟨by omega, by omega⟩) (by first | exact hG.2 _ _ | exact b01_in _ | assumption | exact ⟨by omega, by omega⟩) (fun c1 => ?_) (fun c1 => ?_)
    · refine s_iload_n dX5_takenOfOthers_49 rfl ?_
      exact s_ireturn dX5_takenOfOthers_50 rfl (k _ (by simp [sumI]))
    · exact absurd c1 (by omega)
  | succ m ih =>
    intro i acc i0 i1 k
    refine s_iload_n dX5_takenOfOthers_4 rfl ?_
    refine s_aload_n dX5_takenOfOthers_5 rfl ?_
    refine s_getr dX5_takenOfOthers_6 fl_X5_46 kl_4 (by decide) rfl A (z := 14) rfl (by first | exact hw | (simp (disch := omega) only [hs_same, hs_ne, fl_in, fl_ne, cp_inn, cp_nee]; exact hw)) (W).1 ?_
    refine s_geti dX5_takenOfOthers_9 fl_X5_63 kl_5 (by decide) rfl W (z := 7) rfl ?_
    refine s_icmp_ge (tgt := 49) dX5_takenOfOthers_12 (by decide) (by first | exact hG.2 _ _ | exact b01_in _ | assumption | exact ⟨by omega, by omega⟩) (by first | exact hG.2 _ _ | exact b01_in _ | assumption | exact ⟨by omega, by omega⟩) (fun c1 => ?_) (fun c1 => ?_)
    · exact absurd c1 (by omega)
    · refine s_iload_n dX5_takenOfOthers_15 rfl ?_
      refine s_aload_n dX5_takenOfOthers_16 rfl ?_
      refine s_getr dX5_takenOfOthers_17 fl_X5_46 kl_4 (by decide) rfl A (z := 14) rfl (by first | exact hw | (simp (disch := omega) only [hs_same, hs_ne, fl_in, fl_ne, cp_inn, cp_nee]; exact hw)) (W).1 ?_
      refine s_getr dX5_takenOfOthers_20 fl_X5_130 kl_5 (by decide) rfl W (z := 9) rfl (rf_5_9 hG.1 W) (rk_5_9 W).1 ?_
      refine s_iload_n dX5_takenOfOthers_23 rfl ?_
      refine s_iaload dX5_takenOfOthers_24 (rk_5_9 W) (by omega) (by omega) ?_
      refine s_iload_n dX5_takenOfOthers_25 rfl ?_
      refine s_icmp_ne (tgt := 33) dX5_takenOfOthers_26 (by decide) (by first | exact hG.2 _ _ | exact b01_in _ | assumption | exact ⟨by omega, by omega⟩) (by first | exact hG.2 _ _ | exact b01_in _ | assumption | exact ⟨by omega, by omega⟩) (fun c2 => ?_) (fun c2 => ?_)
      · refine s_aload_n dX5_takenOfOthers_33 rfl ?_
        refine s_getr dX5_takenOfOthers_34 fl_X5_30 kl_4 (by decide) rfl A (z := 5) rfl (rf_4_5 hG.1 A) (rk_4_5 A).1 ?_
        refine s_iload_n dX5_takenOfOthers_37 rfl ?_
        refine s_aaload4 dX5_takenOfOthers_38 (rk_4_5 A) (by omega) (by omega) (rw_4_5 hG.1 A (by omega) (by omega)) (rx_4_5 A (by omega) (by omega)).1 ?_
        refine s_iload_n dX5_takenOfOthers_39 rfl ?_
        refine s_iaload dX5_takenOfOthers_40 (rx_4_5 A (by omega) (by omega)) (by omega) (by omega) ?_
        refine s_iadd dX5_takenOfOthers_41 ?_
        refine s_istore_n dX5_takenOfOthers_42 (by decide) rfl (L' := [_, _, _, _]) rfl ?_
        refine s_iinc dX5_takenOfOthers_43 rfl (by decide) rfl (L' := [_, _, _, _]) rfl ?_
        refine s_goto (tgt := 4) dX5_takenOfOthers_46 (by decide) ?_
        exact ih (i + 1) _ (by omega) (by omega) (fun z e => k z (by rw [e]; simp only [sumI]; split <;> omega))
      · refine s_iconst dX5_takenOfOthers_29 ?_
        refine s_goto (tgt := 41) dX5_takenOfOthers_30 (by decide) ?_
        refine s_iadd dX5_takenOfOthers_41 ?_
        refine s_istore_n dX5_takenOfOthers_42 (by decide) rfl (L' := [_, _, _, _]) rfl ?_
        refine s_iinc dX5_takenOfOthers_43 rfl (by decide) rfl (L' := [_, _, _, _]) rfl ?_
        refine s_goto (tgt := 4) dX5_takenOfOthers_46 (by decide) ?_
        exact ih (i + 1) _ (by omega) (by omega) (fun z e => k z (by rw [e]; simp only [sumI]; split <;> omega))
set_option maxRecDepth 100000 in
set_option maxHeartbeats 4000000 in
theorem c_X5_takenOfOthers {p : Int} (A : isO nN r 4) (hG : G h) (hw : h r 14 = w) (W : isO nN w 5) (g0 : 0 ≤ h w 7) (g9 : h w 7 ≤ 12) (q0 : 0 ≤ p) (q1 : p < 12) (k : Q.1 (some (0, sumI (fun g => if h (w + 33) g = p then 0 else h (r + 30 + 1 + g) p) 0 (h w 7).toNat)) nN h) : Cl_ yX5_takenOfOthers MX5_takenOfOthers d bc bs [(2, r), (0, p)] nN h Q := by
  refine s_enter pn_X5 rfl (Nat.le_of_ble_eq_true rfl) (L := [(2, _), (0, _), (9, 0), (9, 0)]) rfl ?_
  refine s_iconst dX5_takenOfOthers_0 ?_
  refine s_istore_n dX5_takenOfOthers_1 (by decide) rfl (L' := [_, _, _, _]) rfl ?_
  refine s_iconst dX5_takenOfOthers_2 ?_
  refine s_istore_n dX5_takenOfOthers_3 (by decide) rfl (L' := [_, _, _, _]) rfl ?_
  exact lp_X5_takenOfOthers A hG hw W g0 g9 q0 q1 (h w 7).toNat 0 0 (by omega) (by omega) (fun z e => by rw [e, Int.zero_add]; exact k)
end X5A
