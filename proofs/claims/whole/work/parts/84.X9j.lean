/-! the reference: what is asked of its reckoning -/
theorem q_val {Q : PQ} {a b : Int} {h : PH} (e : a = b) (k : Q.1 (some (0, a)) nN h) : Q.1 (some (0, b)) nN h := by
  rw [← e]
  exact k
theorem zundo_1 {z : PH} : zundo z 1 = z (60 + (z 53 0 - 1)) := by
  unfold zundo
  rw [if_pos rfl]
theorem zundo_53 {z : PH} : zundo z 53 0 = z 53 0 - 1 := by
  unfold zundo
  rw [if_neg (by omega), if_pos rfl]
theorem zundo_ne {z : PH} {x : Int} (hx : ¬ x = 1) (hy : ¬ x = 53) : zundo z x = z x := by
  unfold zundo
  rw [if_neg hx, if_neg hy]
theorem zi_undo {z : PH} (I : ZI z) (B : ZB z) (hc : 0 < z 53 0) : ZI (zundo z) := by
  refine ⟨?_, ?_⟩
  · rw [zf_z, zundo_1]
    exact B.2.2.2.2.2.2.1 _ (by omega) (by omega)
  · unfold ZW
    rw [zundo_ne (x := 0) (by omega) (by omega), zundo_ne (x := 2) (by omega) (by omega), zundo_ne (x := 3) (by omega) (by omega), zundo_ne (x := 5) (by omega) (by omega), zundo_ne (x := 6) (by omega) (by omega), zundo_ne (x := 7) (by omega) (by omega), zundo_ne (x := 8) (by omega) (by omega), zundo_ne (x := 9) (by omega) (by omega)]
    exact I.2
theorem zb_undo {z : PH} (I : ZI z) (B : ZB z) (hc : 0 < z 53 0) : ZB (zundo z) := by
  have e : ∀ x : Int, ¬ x = 1 → ¬ x = 53 → zundo z x = z x := fun x a b => zundo_ne a b
  have hT := I.2.1
  have hP := I.2.2.1
  obtain ⟨d1, d2, d3, d4, d5, d6, d7, d8, d9⟩ := B
  refine ⟨by rw [e 50 (by omega) (by omega)]; exact d1, by rw [e 51 (by omega) (by omega)]; exact d2, by rw [e 52 (by omega) (by omega)]; exact d3, fun t a b => ?_, fun p a b => ?_, by rw [zundo_53]; omega, fun j a b => ?_, by rw [e 54 (by omega) (by omega)]; exact d8, by rw [e 54 (by omega) (by omega), e 55 (by omega) (by omega)]; exact d9⟩
  · rw [e 0 (by omega) (by omega)] at b
    rw [e 10 (by omega) (by omega), e (20 + t) (by omega) (by omega)]
    exact d4 t a b
  · rw [e 0 (by omega) (by omega)] at b
    rw [e 11 (by omega) (by omega), e (30 + p) (by omega) (by omega)]
    exact d5 p a b
  · rw [zundo_53] at b
    rw [e (60 + j) (by omega) (by omega)]
    exact d7 j a (by omega)
theorem mr_undo {h h' z : PH} (M : MR_ h z) (hc : 0 < z 53 0) (hG : G h') (f : ∀ x k : Int, ¬ x = 196 + 1 → ¬ (x = 196 ∧ (k = 0 ∨ k = 4)) → h' x k = h x k) (e4 : h' 196 4 = z 53 0 - 1) (R : ∀ k : Int, 0 ≤ k → k < 61 → h' (196 + 1) k = h (196 + 3) (61 * (z 53 0 - 1) + k)) : MR_ h' (zundo z) := by
  obtain ⟨-, ⟨a1, a2, a3⟩, a4, ⟨a5, a6⟩, a7, a8, a9, b1, ⟨b2, b3⟩, b4, ⟨b5, b6⟩, b7, b8⟩ := M
  have e : ∀ x : Int, ¬ x = 1 → ¬ x = 53 → zundo z x = z x := fun x a b => zundo_ne a b
  have e0 := e 0 (by omega) (by omega)
  have hT := b7.2.1
  have hP := b7.2.2.1
  have hN := b7.2.2.2.1
  have h53 := b8.2.2.2.2.2.1
  refine ⟨hG, ⟨by rw [f _ _ (by omega) (by omega), e0]; exact a1, by rw [f _ _ (by omega) (by omega), e0]; exact a2, by rw [f _ _ (by omega) (by omega), e0]; exact a3⟩, fun k p q => by rw [zundo_1, R k p q]; exact a6 _ k (by omega) (by omega) p q, ⟨by rw [e4, zundo_53], fun j k p q r s => ?_⟩, fun t p q => ?_, fun t p q => ?_, fun p a b => ?_, fun g v p q r s => ?_, ⟨by rw [f _ _ (by omega) (by omega), e 50 (by omega) (by omega)]; exact b2, fun k p q => by rw [f _ _ (by omega) (by omega), e 51 (by omega) (by omega)]; exact b3 k p q⟩, by rw [f _ _ (by omega) (by omega), e 52 (by omega) (by omega)]; exact b4, ⟨by rw [f _ _ (by omega) (by omega), e 54 (by omega) (by omega)]; exact b5, fun k p q => ?_⟩, zi_undo b7 b8 hc, zb_undo b7 b8 hc⟩
  · rw [zundo_53] at q
    rw [f _ _ (by omega) (by omega), e (60 + j) (by omega) (by omega)]
    exact a6 j k p (by omega) r s
  · rw [e0] at q
    rw [f _ _ (by omega) (by omega), e (20 + t) (by omega) (by omega), e 10 (by omega) (by omega)]
    exact a7 t p q
  · rw [e0] at q
    rw [f _ _ (by omega) (by omega), e (30 + t) (by omega) (by omega), e 11 (by omega) (by omega)]
    exact a8 t p q
  · rw [e0] at b
    rw [f _ _ (by omega) (by omega), f _ _ (by omega) (by omega), e 2 (by omega) (by omega), e 3 (by omega) (by omega)]
    exact a9 p a b
  · rw [e0] at q
    rw [f _ _ (by omega) (by omega), e (5 + v) (by omega) (by omega)]
    exact b1 g v p q r s
  · rw [e 54 (by omega) (by omega)] at q
    rw [f _ _ (by omega) (by omega), e 55 (by omega) (by omega)]
    exact b6 k p q
theorem zde_lo {z : PH} {g c : Int} (c4 : c ≤ 4) : zde z g c = zdu z g c := by
  unfold zde
  rw [if_neg (by omega), d5elo c4]
theorem zes_b {z : PH} : zes z = z 1 56 + sumI (zbr z) 0 (z 0 0).toNat := rfl
theorem zgt_le {z : PH} (I : ZI z) {g c : Int} (g0 : 0 ≤ g) (g1 : g < z 0 2) (c0 : 0 ≤ c) (c4 : c ≤ 4) : 0 ≤ zgt z g c ∧ zgt z g c ≤ 9999 := by
  have b1 := gt_bd (D := zd5 z) (n := z 0 2) (c := c) (zav_bd I).1 c0 (fun g k a b _ _ => (zd5_bd I a b).1) g g0 g1
  have b2 := zdu_bd I (c := c) g0 g1
  unfold zgt
  rw [if_neg (by omega)]
  rw [d5elo c4] at b1
  omega
section X9J
variable {d bc bs : Nat} {Q : PQ} {h h0 z : PH}
set_option maxRecDepth 100000 in
set_option maxHeartbeats 4000000 in
theorem lp_X9_undo  (a0 : 0 < z 53 0) (a1 : z 53 0 ≤ 16) (ea : h0 196 4 = z 53 0 - 1) (k : ∀ h : PH, G h → (∀ x y : Int, ¬ x = 196 + 1 → h x y = h0 x y) → (∀ k : Int, 0 ≤ k → k < 61 → h (196 + 1) k = h0 (196 + 3) (61 * (z 53 0 - 1) + k)) → Q.1 (some (0, z 53 0 - 1)) nN h) : ∀ (m : Nat) (i : Int) (h : PH), (0 ≤ i) → (i + m = 61) → (G h) → (∀ x y : Int, ¬ x = 196 + 1 → h x y = h0 x y) → (∀ k : Int, 0 ≤ k → k < i → h (196 + 1) k = h0 (196 + 3) (61 * (z 53 0 - 1) + k)) → S_ MX9_undo d bc bs Q 26 [(2, 196), (0, i)] [] nN h := by
  intro m
  induction m with
  | zero =>
    intro i h i0 im gG fr H
    have hG := gG
    have e4 := (fr 196 4 (by omega)).trans ea
    refine s_iload_n dX9_undo_26 rfl ?_
    refine s_bipush dX9_undo_27 (by decide) ?_
    refine s_icmp_ge (tgt := 58) dX9_undo_29 (by decide) (by first | exact hG.2 _ _ | exact b01_in _ | assumption | exact ⟨by omega, by omega⟩) (by first | exact hG.2 _ _ | exact b01_in _ | assumption | exact ⟨by omega, by omega⟩) (fun c1 => ?_) (fun c1 => ?_)
    · refine s_aload_n dX9_undo_58 rfl ?_
      refine s_geti dX9_undo_59 fl_X9_284 kl_7 (by decide) rfl io_196 (z := 4) rfl ?_
      rw [e4]
      exact s_ireturn dX9_undo_62 rfl (k h gG fr (fun j j0 j1 => H j j0 (by omega)))
    · exact absurd c1 (by omega)
  | succ m ih =>
    intro i h i0 im gG fr H
    have hG := gG
    have e4 := (fr 196 4 (by omega)).trans ea
    refine s_iload_n dX9_undo_26 rfl ?_
    refine s_bipush dX9_undo_27 (by decide) ?_
    refine s_icmp_ge (tgt := 58) dX9_undo_29 (by decide) (by first | exact hG.2 _ _ | exact b01_in _ | assumption | exact ⟨by omega, by omega⟩) (by first | exact hG.2 _ _ | exact b01_in _ | assumption | exact ⟨by omega, by omega⟩) (fun c1 => ?_) (fun c1 => ?_)
    · exact absurd c1 (by omega)
    · refine s_aload_n dX9_undo_32 rfl ?_
      refine s_getr dX9_undo_33 fl_X9_7 kl_7 (by decide) rfl io_196 (z := 1) rfl (rf_7_1 hG.1 io_196) (rk_7_1 io_196).1 ?_
      refine s_iload_n dX9_undo_36 rfl ?_
      refine s_aload_n dX9_undo_37 rfl ?_
      refine s_getr dX9_undo_38 fl_X9_16 kl_7 (by decide) rfl io_196 (z := 3) rfl (rf_7_3 hG.1 io_196) (rk_7_3 io_196).1 ?_
      refine s_bipush dX9_undo_41 (by decide) ?_
      refine s_aload_n dX9_undo_43 rfl ?_
      refine s_geti dX9_undo_44 fl_X9_284 kl_7 (by decide) rfl io_196 (z := 4) rfl ?_
      refine s_imul dX9_undo_47 ?_
      refine s_iload_n dX9_undo_48 rfl ?_
      refine s_iadd dX9_undo_49 ?_
      refine s_iaload dX9_undo_50 (rk_7_3 io_196) (by omega) (by omega) ?_
      refine s_iastoreG dX9_undo_51 (rk_7_1 io_196) (by omega) (by omega) hG (by first | exact hG.2 _ _ | exact b01_in _ | assumption | exact ⟨by omega, by omega⟩) (fun hG1 => ?_)
      refine s_iinc dX9_undo_52 rfl (by decide) rfl (L' := [_, _]) rfl ?_
      refine s_goto (tgt := 26) dX9_undo_55 (by decide) ?_
      refine ih (i + 1) _ (by omega) (by omega) hG1 (fun x y a => by rw [hs_ne _ (by omega)]; exact fr x y a) (fun j j0 j1 => ?_)
      by_cases q : j = i
      · rw [q, hs_eq, e4]
        exact fr _ _ (by omega)
      · rw [hs_ne _ (by omega)]
        exact H j j0 (by omega)
set_option maxRecDepth 100000 in
set_option maxHeartbeats 4000000 in
theorem c_X9_undo  (M : MR_ h z) (k : 0 < z 53 0 → MK_ Q h (zundo z) 0 (z 53 0 - 1)) (k1 : z 53 0 = 0 → MK_ Q h z 0 (-1)) : Cl_ yX9_undo MX9_undo d bc bs [(2, 196)] nN h Q := by
  refine s_enter pn_X9 rfl (Nat.le_of_ble_eq_true rfl) (L := [(2, _), (9, 0)]) rfl ?_
  have hG := M.1
  have I := mr_i M
  have hT := I.2.1
  have hP := I.2.2.1
  have hN := I.2.2.2.1
  have nn := M.2.1
  have b53 := (mr_b M).2.2.2.2.2.1
  have e4 := M.2.2.2.1.1
  refine s_aload_n dX9_undo_0 rfl ?_
  refine s_iconst dX9_undo_1 ?_
  refine s_putiG 0 dX9_undo_2 fl_X9_98 kl_7 (by decide) rfl rfl io_196 (z := 0) rfl (by decide +kernel) hG (by first | exact hG.2 _ _ | exact b01_in _ | assumption | exact ⟨by omega, by omega⟩) (fun hG1 => ?_)
  obtain ⟨M, fm, th⟩ := mr_th M hG1
  have e4 := M.2.2.2.1.1
  refine s_aload_n dX9_undo_5 rfl ?_
  refine s_geti dX9_undo_6 fl_X9_284 kl_7 (by decide) rfl io_196 (z := 4) rfl ?_
  rw [e4]
  refine s_if_ne (tgt := 14) dX9_undo_9 (by decide) (by first | exact hG1.2 _ _ | exact hG.2 _ _ | exact b01_in _ | assumption | exact ⟨by omega, by omega⟩) (fun c1 => ?_) (fun c1 => ?_)
  · refine s_aload_n dX9_undo_14 rfl ?_
    refine s_dup dX9_undo_15 rfl ?_
    refine s_geti dX9_undo_16 fl_X9_284 kl_7 (by decide) rfl io_196 (z := 4) rfl ?_
    refine s_iconst dX9_undo_19 ?_
    refine s_isub dX9_undo_20 ?_
    refine s_putiG 4 dX9_undo_21 fl_X9_284 kl_7 (by decide) rfl rfl io_196 (z := 4) rfl (by decide +kernel) hG1 (by first | exact hG1.2 _ _ | exact hG.2 _ _ | exact b01_in _ | assumption | exact ⟨by omega, by omega⟩) (fun hG2 => ?_)
    refine s_iconst dX9_undo_24 ?_
    refine s_istore_n dX9_undo_25 (by decide) rfl (L' := [_, _]) rfl ?_
    refine lp_X9_undo (h0 := hs_ (hs_ h 196 0 0) 196 4 (hs_ h 196 0 0 196 4 - 1)) (z := z) (by omega) b53.2 (by rw [hs_eq]; omega) (fun h1 g1 f1 r1 => ?_) 61 0 _ (by omega) (by omega) hG2 (fun _ _ _ => rfl) (fun j j0 j1 => by omega)
    refine k (by omega) h1 (mr_undo M (by omega) g1 (fun x y a b => by rw [f1 x y a, hs_ne _ (by omega)]) (by rw [f1 _ _ (by omega), hs_eq]; omega) (fun k k0 k1 => by rw [r1 k k0 k1, hs_ne _ (by omega)])) (fun x y hx => by rw [f1 x y (by omega), hs_ne _ (by omega)]; exact fm x y hx) ?_
    rw [f1 _ _ (by omega), hs_ne _ (by omega)]
    exact th
  · refine s_iconst dX9_undo_12 ?_
    exact s_ireturn dX9_undo_13 rfl (k1 (by omega) _ M fm th)
set_option maxRecDepth 100000 in
set_option maxHeartbeats 4000000 in
theorem c_X9_estate {v : Int} (hd : 10 ≤ d) (M : MR_ h z) (hv : inI v) (k : 0 ≤ v → v ≤ 7 → MK_ Q h z 0 (zestate z v)) (k1 : ¬ (0 ≤ v ∧ v ≤ 7) → MK_ Q h z 1 0) : Cl_ yX9_estate MX9_estate d bc bs [(2, 196), (0, v)] nN h Q := by
  refine s_enter pn_X9 rfl (Nat.le_of_ble_eq_true rfl) (L := [(2, _), (0, _), (9, 0), (9, 0)]) rfl ?_
  have hG := M.1
  have I := mr_i M
  have hT := I.2.1
  have hP := I.2.2.1
  have hN := I.2.2.2.1
  have nn := M.2.1
  have zeb := zes_bd I
  have b57 := I.1.2.2.2.1
  refine s_aload_n dX9_estate_0 rfl ?_
  refine s_iload_n dX9_estate_1 rfl ?_
  refine s_i2l dX9_estate_2 (by first | exact hG.2 _ _ | exact b01_in _ | assumption | exact ⟨by omega, by omega⟩) ?_
  refine s_lconstz (z := 0) dX9_estate_3 rfl ?_
  refine s_ldc2 dX9_estate_4 kc_X9_403 ?_
  refine s_callS (d' := d - 1) (bc' := 0) (bs' := 0) (as := [_, _, _]) dX9_estate_7 sf_X9_143 (dd_ (by omega) (by decide)) ⟨Nat.zero_le _, Nat.zero_le _⟩ rfl rfl (Nat.le_of_ble_eq_true rfl) ?_
  refine c_X9_isIn (inI_L (by assumption)) ⟨by omega, by omega⟩ ⟨by omega, by omega⟩ ?_
  refine s_if_eq (tgt := 17) dX9_estate_10 (by decide) (by first | exact hG.2 _ _ | exact b01_in _ | assumption | exact ⟨by omega, by omega⟩) (fun c1 => ?_) (fun c1 => ?_)
  · have c1 := b01_0.mp c1
    refine s_iconst dX9_estate_17 ?_
    refine s_putiG 0 dX9_estate_18 fl_X9_98 kl_7 (by decide) rfl rfl io_196 (z := 0) rfl (by decide +kernel) hG (by first | exact hG.2 _ _ | exact b01_in _ | assumption | exact ⟨by omega, by omega⟩) (fun hG1 => ?_)
    obtain ⟨M, fm, th⟩ := mr_th M hG1
    refine s_aload_n dX9_estate_21 rfl ?_
    refine s_geti dX9_estate_22 fl_X9_98 kl_7 (by decide) rfl io_196 (z := 0) rfl ?_
    rw [th]
    refine s_if_le (tgt := 30) dX9_estate_25 (by decide) (by first | exact hG1.2 _ _ | exact hG.2 _ _ | exact b01_in _ | assumption | exact ⟨by omega, by omega⟩) (fun c2 => ?_) (fun c2 => ?_)
    · exact absurd c2 (by decide)
    · refine s_iconst dX9_estate_28 ?_
      exact s_ireturn dX9_estate_29 rfl (k1 (by omega) _ M fm th)
  · have c1 := b01_n.mp c1
    refine s_iconst dX9_estate_13 ?_
    refine s_goto (tgt := 18) dX9_estate_14 (by decide) ?_
    refine s_putiG 0 dX9_estate_18 fl_X9_98 kl_7 (by decide) rfl rfl io_196 (z := 0) rfl (by decide +kernel) hG (by first | exact hG.2 _ _ | exact b01_in _ | assumption | exact ⟨by omega, by omega⟩) (fun hG2 => ?_)
    obtain ⟨M, fm, th⟩ := mr_th M hG2
    refine s_aload_n dX9_estate_21 rfl ?_
    refine s_geti dX9_estate_22 fl_X9_98 kl_7 (by decide) rfl io_196 (z := 0) rfl ?_
    rw [th]
    refine s_if_le (tgt := 30) dX9_estate_25 (by decide) (by first | exact hG2.2 _ _ | exact hG.2 _ _ | exact b01_in _ | assumption | exact ⟨by omega, by omega⟩) (fun c3 => ?_) (fun c3 => ?_)
    · refine s_aload_n dX9_estate_30 rfl ?_
      refine s_callV (d' := d - 1) (bc' := 0) (bs' := 0) (as := []) dX9_estate_31 vf_X9_405 (dd_ (by omega) (by decide)) ⟨Nat.zero_le _, Nat.zero_le _⟩ rfl rfl (Nat.le_of_ble_eq_true rfl) kl_7 rfl io_196 ?_
      refine c_X9_lays (by omega) M (fun hhG3 ghG3 fhG3 RhG3 => ?_)
      have hG3 := ghG3
      have M := sc_M M ghG3 fhG3
      have fm := fm.tr (sc_fm fhG3)
      have th := (sc_0 fhG3).trans th
      have R9 := RhG3
      have k9 := k (by omega) (by omega) _ M fm th
      have e57 := mr_f M 57 (by omega) (by omega)
      rw [pm_h (by omega)] at e57
      refine s_aload_n dX9_estate_34 rfl ?_
      refine s_callV (d' := d - 1) (bc' := 0) (bs' := 0) (as := []) dX9_estate_35 vf_X9_376 (dd_ (by omega) (by decide)) ⟨Nat.zero_le _, Nat.zero_le _⟩ rfl rfl (Nat.le_of_ble_eq_true rfl) kl_7 rfl io_196 ?_
      refine c_X9_estateNow (by omega) M ?_
      refine s_istore_n dX9_estate_38 (by decide) rfl (L' := [_, _, _, _]) rfl ?_
      refine s_iload_n dX9_estate_39 rfl ?_
      refine s_aload_n dX9_estate_40 rfl ?_
      refine s_getr dX9_estate_41 fl_X9_7 kl_7 (by decide) rfl io_196 (z := 1) rfl (rf_7_1 hG3.1 io_196) (rk_7_1 io_196).1 ?_
      refine s_bipush dX9_estate_44 (by decide) ?_
      refine s_iaload dX9_estate_46 (rk_7_1 io_196) (by omega) (by omega) ?_
      rw [e57]
      refine s_isub dX9_estate_47 ?_
      refine s_istore_n dX9_estate_48 (by decide) rfl (L' := [_, _, _, _]) rfl ?_
      refine s_iload_n dX9_estate_49 rfl ?_
      rcases (by omega : v = 0 ∨ v = 1 ∨ v = 2 ∨ v = 3 ∨ v = 4 ∨ v = 5 ∨ v = 6 ∨ (v < 0 ∨ 6 < v)) with rfl | rfl | rfl | rfl | rfl | rfl | rfl | c4
      · refine s_tabIn (tgt := 92) dX9_estate_50 (by first | exact hG3.2 _ _ | exact hG.2 _ _ | exact b01_in _ | assumption | exact ⟨by omega, by omega⟩) (by decide) (by decide) rfl (by decide) ?_
        refine s_iload_n dX9_estate_92 rfl ?_
        exact s_ireturn dX9_estate_93 rfl (q_val (by unfold zestate; exact if_pos (by omega)) k9)
      · refine s_tabIn (tgt := 94) dX9_estate_50 (by first | exact hG3.2 _ _ | exact hG.2 _ _ | exact b01_in _ | assumption | exact ⟨by omega, by omega⟩) (by decide) (by decide) rfl (by decide) ?_
        refine s_iload_n dX9_estate_94 rfl ?_
        refine s_if_ge (tgt := 102) dX9_estate_95 (by decide) (by first | exact hG3.2 _ _ | exact hG.2 _ _ | exact b01_in _ | assumption | exact ⟨by omega, by omega⟩) (fun c5 => ?_) (fun c5 => ?_)
        · refine s_iload_n dX9_estate_102 rfl ?_
          exact s_ireturn dX9_estate_103 rfl (q_val (by unfold zestate; rw [if_neg (by omega), if_pos (by omega)]; unfold zav; omega) k9)
        · refine s_iconst dX9_estate_98 ?_
          refine s_goto (tgt := 103) dX9_estate_99 (by decide) ?_
          exact s_ireturn dX9_estate_103 rfl (q_val (by unfold zestate; rw [if_neg (by omega), if_pos (by omega)]; unfold zav; omega) k9)
      · refine s_tabIn (tgt := 104) dX9_estate_50 (by first | exact hG3.2 _ _ | exact hG.2 _ _ | exact b01_in _ | assumption | exact ⟨by omega, by omega⟩) (by decide) (by decide) rfl (by decide) ?_
        refine s_iload_n dX9_estate_104 rfl ?_
        refine s_if_ge (tgt := 113) dX9_estate_105 (by decide) (by first | exact hG3.2 _ _ | exact hG.2 _ _ | exact b01_in _ | assumption | exact ⟨by omega, by omega⟩) (fun c6 => ?_) (fun c6 => ?_)
        · refine s_iconst dX9_estate_113 ?_
          exact s_ireturn dX9_estate_114 rfl (q_val (by unfold zestate; rw [if_neg (by omega), if_neg (by omega), if_pos (by omega)]; omega) k9)
        · refine s_iload_n dX9_estate_108 rfl ?_
          refine s_ineg dX9_estate_109 ?_
          refine s_goto (tgt := 114) dX9_estate_110 (by decide) ?_
          exact s_ireturn dX9_estate_114 rfl (q_val (by unfold zestate; rw [if_neg (by omega), if_neg (by omega), if_pos (by omega)]; omega) k9)
      · refine s_tabIn (tgt := 115) dX9_estate_50 (by first | exact hG3.2 _ _ | exact hG.2 _ _ | exact b01_in _ | assumption | exact ⟨by omega, by omega⟩) (by decide) (by decide) rfl (by decide) ?_
        refine s_aload_n dX9_estate_115 rfl ?_
        refine s_geti dX9_estate_116 fl_X9_385 kl_7 (by decide) rfl io_196 (z := 34) rfl ?_
        exact s_ireturn dX9_estate_119 rfl (q_val (by rw [R9.2.2.1]; unfold zestate; rw [if_neg (by omega), if_neg (by omega), if_neg (by omega), if_pos (by omega)]) k9)
      · refine s_tabIn (tgt := 120) dX9_estate_50 (by first | exact hG3.2 _ _ | exact hG.2 _ _ | exact b01_in _ | assumption | exact ⟨by omega, by omega⟩) (by decide) (by decide) rfl (by decide) ?_
        refine s_aload_n dX9_estate_120 rfl ?_
        refine s_geti dX9_estate_121 fl_X9_391 kl_7 (by decide) rfl io_196 (z := 35) rfl ?_
        exact s_ireturn dX9_estate_124 rfl (q_val (by rw [R9.2.2.2.1]; unfold zestate; rw [if_neg (by omega), if_neg (by omega), if_neg (by omega), if_neg (by omega), if_pos (by omega)]) k9)
      · refine s_tabIn (tgt := 125) dX9_estate_50 (by first | exact hG3.2 _ _ | exact hG.2 _ _ | exact b01_in _ | assumption | exact ⟨by omega, by omega⟩) (by decide) (by decide) rfl (by decide) ?_
        refine s_aload_n dX9_estate_125 rfl ?_
        refine s_geti dX9_estate_126 fl_X9_394 kl_7 (by decide) rfl io_196 (z := 36) rfl ?_
        exact s_ireturn dX9_estate_129 rfl (q_val (by rw [R9.2.2.2.2.1]; unfold zestate; rw [if_neg (by omega), if_neg (by omega), if_neg (by omega), if_neg (by omega), if_neg (by omega), if_pos (by omega)]) k9)
      · refine s_tabIn (tgt := 130) dX9_estate_50 (by first | exact hG3.2 _ _ | exact hG.2 _ _ | exact b01_in _ | assumption | exact ⟨by omega, by omega⟩) (by decide) (by decide) rfl (by decide) ?_
        refine s_iload_n dX9_estate_130 rfl ?_
        refine s_if_ge (tgt := 138) dX9_estate_131 (by decide) (by first | exact hG3.2 _ _ | exact hG.2 _ _ | exact b01_in _ | assumption | exact ⟨by omega, by omega⟩) (fun c7 => ?_) (fun c7 => ?_)
        · refine s_iload_n dX9_estate_138 rfl ?_
          refine s_aload_n dX9_estate_139 rfl ?_
          refine s_geti dX9_estate_140 fl_X9_385 kl_7 (by decide) rfl io_196 (z := 34) rfl ?_
          refine s_isub dX9_estate_143 ?_
          exact s_ireturn dX9_estate_144 rfl (q_val (by rw [R9.2.2.1]; unfold zestate; rw [if_neg (by omega), if_neg (by omega), if_neg (by omega), if_neg (by omega), if_neg (by omega), if_neg (by omega), if_pos (by omega)]; unfold zav; omega) k9)
        · refine s_iconst dX9_estate_134 ?_
          refine s_goto (tgt := 139) dX9_estate_135 (by decide) ?_
          refine s_aload_n dX9_estate_139 rfl ?_
          refine s_geti dX9_estate_140 fl_X9_385 kl_7 (by decide) rfl io_196 (z := 34) rfl ?_
          refine s_isub dX9_estate_143 ?_
          exact s_ireturn dX9_estate_144 rfl (q_val (by rw [R9.2.2.1]; unfold zestate; rw [if_neg (by omega), if_neg (by omega), if_neg (by omega), if_neg (by omega), if_neg (by omega), if_neg (by omega), if_pos (by omega)]; unfold zav; omega) k9)
      · refine s_tabOut (tgt := 145) dX9_estate_50 (by first | exact hG3.2 _ _ | exact hG.2 _ _ | exact b01_in _ | assumption | exact ⟨by omega, by omega⟩) c4 (by decide) ?_
        refine s_aload_n dX9_estate_145 rfl ?_
        refine s_geti dX9_estate_146 fl_X9_365 kl_7 (by decide) rfl io_196 (z := 33) rfl ?_
        exact s_ireturn dX9_estate_149 rfl (q_val (by rw [R9.2.1]; unfold zestate; rw [if_neg (by omega), if_neg (by omega), if_neg (by omega), if_neg (by omega), if_neg (by omega), if_neg (by omega), if_neg (by omega)]) k9)
    · exact absurd c3 (by decide)
set_option maxRecDepth 100000 in
set_option maxHeartbeats 4000000 in
theorem c_X9_due {g c : Int} (hd : 10 ≤ d) (M : MR_ h z) (hg : inI g) (hc : inI c) (k : 0 ≤ g → g < z 0 2 → 0 ≤ c → c ≤ 6 → MK_ Q h z 0 (zde z g c)) (k1 : ¬ (0 ≤ g ∧ g < z 0 2) → MK_ Q h z 1 0) (k2 : 0 ≤ g → g < z 0 2 → ¬ (0 ≤ c ∧ c ≤ 6) → MK_ Q h z 2 0) : Cl_ yX9_due MX9_due d bc bs [(2, 196), (0, g), (0, c)] nN h Q := by
  refine s_enter pn_X9 rfl (Nat.le_of_ble_eq_true rfl) (L := [(2, _), (0, _), (0, _)]) rfl ?_
  have hG := M.1
  have I := mr_i M
  have hT := I.2.1
  have hP := I.2.2.1
  have hN := I.2.2.2.1
  have nn := M.2.1
  refine s_aload_n dX9_due_0 rfl ?_
  refine s_aload_n dX9_due_1 rfl ?_
  refine s_iload_n dX9_due_2 rfl ?_
  refine s_callV (d' := d - 1) (bc' := 0) (bs' := 0) (as := [_]) dX9_due_3 vf_X9_319 (dd_ (by omega) (by decide)) ⟨Nat.zero_le _, Nat.zero_le _⟩ rfl rfl (Nat.le_of_ble_eq_true rfl) kl_7 rfl io_196 ?_
  refine c_X9_isGift (by omega) M hg ?_
  refine s_if_ne (tgt := 13) dX9_due_6 (by decide) (by first | exact hG.2 _ _ | exact b01_in _ | assumption | exact ⟨by omega, by omega⟩) (fun c1 => ?_) (fun c1 => ?_)
  · have c1 := b01_n.mp c1
    refine s_iload_n dX9_due_13 rfl ?_
    refine s_callS (d' := d - 1) (bc' := 0) (bs' := 0) (as := [_]) dX9_due_14 sf_X9_408 (dd_ (by omega) (by decide)) ⟨Nat.zero_le _, Nat.zero_le _⟩ rfl rfl (Nat.le_of_ble_eq_true rfl) ?_
    refine c_X9_isClass (by omega) hc ?_
    refine s_if_eq (tgt := 24) dX9_due_17 (by decide) (by first | exact hG.2 _ _ | exact b01_in _ | assumption | exact ⟨by omega, by omega⟩) (fun c2 => ?_) (fun c2 => ?_)
    · have c2 := b01_0.mp c2
      refine s_iconst dX9_due_24 ?_
      refine s_putiG 0 dX9_due_25 fl_X9_98 kl_7 (by decide) rfl rfl io_196 (z := 0) rfl (by decide +kernel) hG (by first | exact hG.2 _ _ | exact b01_in _ | assumption | exact ⟨by omega, by omega⟩) (fun hG1 => ?_)
      obtain ⟨M, fm, th⟩ := mr_th M hG1
      refine s_aload_n dX9_due_28 rfl ?_
      refine s_geti dX9_due_29 fl_X9_98 kl_7 (by decide) rfl io_196 (z := 0) rfl ?_
      rw [th]
      refine s_if_le (tgt := 37) dX9_due_32 (by decide) (by first | exact hG1.2 _ _ | exact hG.2 _ _ | exact b01_in _ | assumption | exact ⟨by omega, by omega⟩) (fun c3 => ?_) (fun c3 => ?_)
      · exact absurd c3 (by decide)
      · refine s_iconst dX9_due_35 ?_
        exact s_ireturn dX9_due_36 rfl (k2 (by omega) (by omega) (by omega) _ M fm th)
    · have c2 := b01_n.mp c2
      refine s_iconst dX9_due_20 ?_
      refine s_goto (tgt := 25) dX9_due_21 (by decide) ?_
      refine s_putiG 0 dX9_due_25 fl_X9_98 kl_7 (by decide) rfl rfl io_196 (z := 0) rfl (by decide +kernel) hG (by first | exact hG.2 _ _ | exact b01_in _ | assumption | exact ⟨by omega, by omega⟩) (fun hG2 => ?_)
      obtain ⟨M, fm, th⟩ := mr_th M hG2
      refine s_aload_n dX9_due_28 rfl ?_
      refine s_geti dX9_due_29 fl_X9_98 kl_7 (by decide) rfl io_196 (z := 0) rfl ?_
      rw [th]
      refine s_if_le (tgt := 37) dX9_due_32 (by decide) (by first | exact hG2.2 _ _ | exact hG.2 _ _ | exact b01_in _ | assumption | exact ⟨by omega, by omega⟩) (fun c4 => ?_) (fun c4 => ?_)
      · refine s_aload_n dX9_due_37 rfl ?_
        refine s_callV (d' := d - 1) (bc' := 0) (bs' := 0) (as := []) dX9_due_38 vf_X9_405 (dd_ (by omega) (by decide)) ⟨Nat.zero_le _, Nat.zero_le _⟩ rfl rfl (Nat.le_of_ble_eq_true rfl) kl_7 rfl io_196 ?_
        refine c_X9_lays (by omega) M (fun hhG3 ghG3 fhG3 RhG3 => ?_)
        have hG3 := ghG3
        have M := sc_M M ghG3 fhG3
        have fm := fm.tr (sc_fm fhG3)
        have th := (sc_0 fhG3).trans th
        have R9 := RhG3
        have k9 := k (by omega) (by omega) (by omega) (by omega) _ M fm th
        refine s_aload_n dX9_due_41 rfl ?_
        refine s_getr dX9_due_42 fl_X9_67 kl_7 (by decide) rfl io_196 (z := 30) rfl (rf_7_30 hG3.1 io_196) (rk_7_30 io_196).1 ?_
        refine s_bipush dX9_due_45 (by decide) ?_
        refine s_iload_n dX9_due_47 rfl ?_
        refine s_imul dX9_due_48 ?_
        refine s_iload_n dX9_due_49 rfl ?_
        refine s_iadd dX9_due_50 ?_
        refine s_iaload dX9_due_51 (rk_7_30 io_196) (by omega) (by omega) ?_
        rw [(R9.1 g c (by omega) (by omega) (by omega) (by omega)).1]
        exact s_ireturn dX9_due_52 rfl k9
      · exact absurd c4 (by decide)
  · have c1 := b01_0.mp c1
    refine s_iconst dX9_due_9 ?_
    refine s_goto (tgt := 25) dX9_due_10 (by decide) ?_
    refine s_putiG 0 dX9_due_25 fl_X9_98 kl_7 (by decide) rfl rfl io_196 (z := 0) rfl (by decide +kernel) hG (by first | exact hG.2 _ _ | exact b01_in _ | assumption | exact ⟨by omega, by omega⟩) (fun hG4 => ?_)
    obtain ⟨M, fm, th⟩ := mr_th M hG4
    refine s_aload_n dX9_due_28 rfl ?_
    refine s_geti dX9_due_29 fl_X9_98 kl_7 (by decide) rfl io_196 (z := 0) rfl ?_
    rw [th]
    refine s_if_le (tgt := 37) dX9_due_32 (by decide) (by first | exact hG4.2 _ _ | exact hG.2 _ _ | exact b01_in _ | assumption | exact ⟨by omega, by omega⟩) (fun c5 => ?_) (fun c5 => ?_)
    · exact absurd c5 (by decide)
    · refine s_iconst dX9_due_35 ?_
      exact s_ireturn dX9_due_36 rfl (k1 (by omega) _ M fm th)
set_option maxRecDepth 100000 in
set_option maxHeartbeats 4000000 in
theorem c_X9_gets {g c : Int} (hd : 10 ≤ d) (M : MR_ h z) (hg : inI g) (hc : inI c) (k : 0 ≤ g → g < z 0 2 → -1 ≤ c → c ≤ 6 → MK_ Q h z 0 (zgets z g c)) (k1 : ¬ (0 ≤ g ∧ g < z 0 2) → MK_ Q h z 1 0) (k2 : 0 ≤ g → g < z 0 2 → ¬ (-1 ≤ c ∧ c ≤ 6) → MK_ Q h z 2 0) : Cl_ yX9_gets MX9_gets d bc bs [(2, 196), (0, g), (0, c)] nN h Q := by
  refine s_enter pn_X9 rfl (Nat.le_of_ble_eq_true rfl) (L := [(2, _), (0, _), (0, _)]) rfl ?_
  have hG := M.1
  have I := mr_i M
  have hT := I.2.1
  have hP := I.2.2.1
  have hN := I.2.2.2.1
  have nn := M.2.1
  refine s_aload_n dX9_gets_0 rfl ?_
  refine s_aload_n dX9_gets_1 rfl ?_
  refine s_iload_n dX9_gets_2 rfl ?_
  refine s_callV (d' := d - 1) (bc' := 0) (bs' := 0) (as := [_]) dX9_gets_3 vf_X9_319 (dd_ (by omega) (by decide)) ⟨Nat.zero_le _, Nat.zero_le _⟩ rfl rfl (Nat.le_of_ble_eq_true rfl) kl_7 rfl io_196 ?_
  refine c_X9_isGift (by omega) M hg ?_
  refine s_if_ne (tgt := 13) dX9_gets_6 (by decide) (by first | exact hG.2 _ _ | exact b01_in _ | assumption | exact ⟨by omega, by omega⟩) (fun c1 => ?_) (fun c1 => ?_)
  · have c1 := b01_n.mp c1
    refine s_iload_n dX9_gets_13 rfl ?_
    refine s_iconst dX9_gets_14 ?_
    refine s_icmp_eq (tgt := 25) dX9_gets_15 (by decide) (by first | exact hG.2 _ _ | exact b01_in _ | assumption | exact ⟨by omega, by omega⟩) (by first | exact hG.2 _ _ | exact b01_in _ | assumption | exact ⟨by omega, by omega⟩) (fun c2 => ?_) (fun c2 => ?_)
    · refine s_iconst dX9_gets_25 ?_
      refine s_goto (tgt := 30) dX9_gets_26 (by decide) ?_
      refine s_putiG 0 dX9_gets_30 fl_X9_98 kl_7 (by decide) rfl rfl io_196 (z := 0) rfl (by decide +kernel) hG (by first | exact hG.2 _ _ | exact b01_in _ | assumption | exact ⟨by omega, by omega⟩) (fun hG1 => ?_)
      obtain ⟨M, fm, th⟩ := mr_th M hG1
      refine s_aload_n dX9_gets_33 rfl ?_
      refine s_geti dX9_gets_34 fl_X9_98 kl_7 (by decide) rfl io_196 (z := 0) rfl ?_
      rw [th]
      refine s_if_le (tgt := 42) dX9_gets_37 (by decide) (by first | exact hG1.2 _ _ | exact hG.2 _ _ | exact b01_in _ | assumption | exact ⟨by omega, by omega⟩) (fun c3 => ?_) (fun c3 => ?_)
      · refine s_aload_n dX9_gets_42 rfl ?_
        refine s_callV (d' := d - 1) (bc' := 0) (bs' := 0) (as := []) dX9_gets_43 vf_X9_405 (dd_ (by omega) (by decide)) ⟨Nat.zero_le _, Nat.zero_le _⟩ rfl rfl (Nat.le_of_ble_eq_true rfl) kl_7 rfl io_196 ?_
        refine c_X9_lays (by omega) M (fun hhG2 ghG2 fhG2 RhG2 => ?_)
        have hG2 := ghG2
        have M := sc_M M ghG2 fhG2
        have fm := fm.tr (sc_fm fhG2)
        have th := (sc_0 fhG2).trans th
        have R9 := RhG2
        have k9 := k (by omega) (by omega) (by omega) (by omega) _ M fm th
        refine s_iload_n dX9_gets_46 rfl ?_
        refine s_iconst dX9_gets_47 ?_
        refine s_icmp_ne (tgt := 65) dX9_gets_48 (by decide) (by first | exact hG2.2 _ _ | exact hG.2 _ _ | exact b01_in _ | assumption | exact ⟨by omega, by omega⟩) (by first | exact hG2.2 _ _ | exact hG.2 _ _ | exact b01_in _ | assumption | exact ⟨by omega, by omega⟩) (fun c4 => ?_) (fun c4 => ?_)
        · refine s_aload_n dX9_gets_65 rfl ?_
          refine s_getr dX9_gets_66 fl_X9_70 kl_7 (by decide) rfl io_196 (z := 31) rfl (rf_7_31 hG2.1 io_196) (rk_7_31 io_196).1 ?_
          refine s_bipush dX9_gets_69 (by decide) ?_
          refine s_iload_n dX9_gets_71 rfl ?_
          refine s_imul dX9_gets_72 ?_
          refine s_iload_n dX9_gets_73 rfl ?_
          refine s_iadd dX9_gets_74 ?_
          refine s_iaload dX9_gets_75 (rk_7_31 io_196) (by omega) (by omega) ?_
          rw [(R9.1 g c (by omega) (by omega) (by omega) (by omega)).2]
          exact s_ireturn dX9_gets_76 rfl (q_val (by unfold zgets; rw [if_neg (by omega)]) k9)
        · refine s_aload_n dX9_gets_51 rfl ?_
          refine s_iload_n dX9_gets_52 rfl ?_
          refine s_bipush dX9_gets_53 (by decide) ?_
          refine s_aload_n dX9_gets_55 rfl ?_
          refine s_getr dX9_gets_56 fl_X9_70 kl_7 (by decide) rfl io_196 (z := 31) rfl (rf_7_31 hG2.1 io_196) (rk_7_31 io_196).1 ?_
          refine s_callV (d' := d - 1) (bc' := 0) (bs' := 0) (as := [_, _, _]) dX9_gets_59 vf_X9_411 (dd_ (by omega) (by decide)) ⟨Nat.zero_le _, Nat.zero_le _⟩ rfl rfl (Nat.le_of_ble_eq_true rfl) kl_7 rfl io_196 ?_
          refine c_X9_inAll (rk_7_31 io_196) hG2 (by omega) (by omega) (by omega) (by omega) ?_
          refine s_goto (tgt := 76) dX9_gets_62 (by decide) ?_
          exact s_ireturn dX9_gets_76 rfl (q_val (by unfold zgets; rw [if_pos (by omega)]; exact (sumI_congr _ _ (fun i i0 i1 => ((R9.1 g i (by omega) (by omega) (by omega) (by omega)).2))).symm) k9)
      · exact absurd c3 (by decide)
    · refine s_iload_n dX9_gets_18 rfl ?_
      refine s_callS (d' := d - 1) (bc' := 0) (bs' := 0) (as := [_]) dX9_gets_19 sf_X9_408 (dd_ (by omega) (by decide)) ⟨Nat.zero_le _, Nat.zero_le _⟩ rfl rfl (Nat.le_of_ble_eq_true rfl) ?_
      refine c_X9_isClass (by omega) hc ?_
      refine s_if_eq (tgt := 29) dX9_gets_22 (by decide) (by first | exact hG.2 _ _ | exact b01_in _ | assumption | exact ⟨by omega, by omega⟩) (fun c5 => ?_) (fun c5 => ?_)
      · have c5 := b01_0.mp c5
        refine s_iconst dX9_gets_29 ?_
        refine s_putiG 0 dX9_gets_30 fl_X9_98 kl_7 (by decide) rfl rfl io_196 (z := 0) rfl (by decide +kernel) hG (by first | exact hG.2 _ _ | exact b01_in _ | assumption | exact ⟨by omega, by omega⟩) (fun hG3 => ?_)
        obtain ⟨M, fm, th⟩ := mr_th M hG3
        refine s_aload_n dX9_gets_33 rfl ?_
        refine s_geti dX9_gets_34 fl_X9_98 kl_7 (by decide) rfl io_196 (z := 0) rfl ?_
        rw [th]
        refine s_if_le (tgt := 42) dX9_gets_37 (by decide) (by first | exact hG3.2 _ _ | exact hG.2 _ _ | exact b01_in _ | assumption | exact ⟨by omega, by omega⟩) (fun c6 => ?_) (fun c6 => ?_)
        · exact absurd c6 (by decide)
        · refine s_iconst dX9_gets_40 ?_
          exact s_ireturn dX9_gets_41 rfl (k2 (by omega) (by omega) (by omega) _ M fm th)
      · have c5 := b01_n.mp c5
        refine s_iconst dX9_gets_25 ?_
        refine s_goto (tgt := 30) dX9_gets_26 (by decide) ?_
        refine s_putiG 0 dX9_gets_30 fl_X9_98 kl_7 (by decide) rfl rfl io_196 (z := 0) rfl (by decide +kernel) hG (by first | exact hG.2 _ _ | exact b01_in _ | assumption | exact ⟨by omega, by omega⟩) (fun hG4 => ?_)
        obtain ⟨M, fm, th⟩ := mr_th M hG4
        refine s_aload_n dX9_gets_33 rfl ?_
        refine s_geti dX9_gets_34 fl_X9_98 kl_7 (by decide) rfl io_196 (z := 0) rfl ?_
        rw [th]
        refine s_if_le (tgt := 42) dX9_gets_37 (by decide) (by first | exact hG4.2 _ _ | exact hG.2 _ _ | exact b01_in _ | assumption | exact ⟨by omega, by omega⟩) (fun c7 => ?_) (fun c7 => ?_)
        · refine s_aload_n dX9_gets_42 rfl ?_
          refine s_callV (d' := d - 1) (bc' := 0) (bs' := 0) (as := []) dX9_gets_43 vf_X9_405 (dd_ (by omega) (by decide)) ⟨Nat.zero_le _, Nat.zero_le _⟩ rfl rfl (Nat.le_of_ble_eq_true rfl) kl_7 rfl io_196 ?_
          refine c_X9_lays (by omega) M (fun hhG5 ghG5 fhG5 RhG5 => ?_)
          have hG5 := ghG5
          have M := sc_M M ghG5 fhG5
          have fm := fm.tr (sc_fm fhG5)
          have th := (sc_0 fhG5).trans th
          have R9 := RhG5
          have k9 := k (by omega) (by omega) (by omega) (by omega) _ M fm th
          refine s_iload_n dX9_gets_46 rfl ?_
          refine s_iconst dX9_gets_47 ?_
          refine s_icmp_ne (tgt := 65) dX9_gets_48 (by decide) (by first | exact hG5.2 _ _ | exact hG.2 _ _ | exact b01_in _ | assumption | exact ⟨by omega, by omega⟩) (by first | exact hG5.2 _ _ | exact hG.2 _ _ | exact b01_in _ | assumption | exact ⟨by omega, by omega⟩) (fun c8 => ?_) (fun c8 => ?_)
          · refine s_aload_n dX9_gets_65 rfl ?_
            refine s_getr dX9_gets_66 fl_X9_70 kl_7 (by decide) rfl io_196 (z := 31) rfl (rf_7_31 hG5.1 io_196) (rk_7_31 io_196).1 ?_
            refine s_bipush dX9_gets_69 (by decide) ?_
            refine s_iload_n dX9_gets_71 rfl ?_
            refine s_imul dX9_gets_72 ?_
            refine s_iload_n dX9_gets_73 rfl ?_
            refine s_iadd dX9_gets_74 ?_
            refine s_iaload dX9_gets_75 (rk_7_31 io_196) (by omega) (by omega) ?_
            rw [(R9.1 g c (by omega) (by omega) (by omega) (by omega)).2]
            exact s_ireturn dX9_gets_76 rfl (q_val (by unfold zgets; rw [if_neg (by omega)]) k9)
          · refine s_aload_n dX9_gets_51 rfl ?_
            refine s_iload_n dX9_gets_52 rfl ?_
            refine s_bipush dX9_gets_53 (by decide) ?_
            refine s_aload_n dX9_gets_55 rfl ?_
            refine s_getr dX9_gets_56 fl_X9_70 kl_7 (by decide) rfl io_196 (z := 31) rfl (rf_7_31 hG5.1 io_196) (rk_7_31 io_196).1 ?_
            refine s_callV (d' := d - 1) (bc' := 0) (bs' := 0) (as := [_, _, _]) dX9_gets_59 vf_X9_411 (dd_ (by omega) (by decide)) ⟨Nat.zero_le _, Nat.zero_le _⟩ rfl rfl (Nat.le_of_ble_eq_true rfl) kl_7 rfl io_196 ?_
            refine c_X9_inAll (rk_7_31 io_196) hG5 (by omega) (by omega) (by omega) (by omega) ?_
            refine s_goto (tgt := 76) dX9_gets_62 (by decide) ?_
            exact s_ireturn dX9_gets_76 rfl (q_val (by unfold zgets; rw [if_pos (by omega)]; exact (sumI_congr _ _ (fun i i0 i1 => ((R9.1 g i (by omega) (by omega) (by omega) (by omega)).2))).symm) k9)
        · exact absurd c7 (by decide)
  · have c1 := b01_0.mp c1
    refine s_iconst dX9_gets_9 ?_
    refine s_goto (tgt := 30) dX9_gets_10 (by decide) ?_
    refine s_putiG 0 dX9_gets_30 fl_X9_98 kl_7 (by decide) rfl rfl io_196 (z := 0) rfl (by decide +kernel) hG (by first | exact hG.2 _ _ | exact b01_in _ | assumption | exact ⟨by omega, by omega⟩) (fun hG6 => ?_)
    obtain ⟨M, fm, th⟩ := mr_th M hG6
    refine s_aload_n dX9_gets_33 rfl ?_
    refine s_geti dX9_gets_34 fl_X9_98 kl_7 (by decide) rfl io_196 (z := 0) rfl ?_
    rw [th]
    refine s_if_le (tgt := 42) dX9_gets_37 (by decide) (by first | exact hG6.2 _ _ | exact hG.2 _ _ | exact b01_in _ | assumption | exact ⟨by omega, by omega⟩) (fun c9 => ?_) (fun c9 => ?_)
    · exact absurd c9 (by decide)
    · refine s_iconst dX9_gets_40 ?_
      exact s_ireturn dX9_gets_41 rfl (k1 (by omega) _ M fm th)
set_option maxRecDepth 100000 in
set_option maxHeartbeats 4000000 in
theorem lp_X9_classed {c v : Int} (M : MR_ h z) (R : RM_ h z) (c0 : 0 ≤ c) (c6 : c ≤ 6) (K : ∀ g : Int, S_ MX9_classed d bc bs Q 88 [(2, 196), (0, c), (0, v), (0, sumI (fun g => if 0 < zde z g c then (1 : Int) else 0) 0 (z 0 2).toNat), (0, g)] [] nN h) : ∀ (m : Nat) (g n : Int), (0 ≤ g) → (g + m = z 0 2) → (n = sumI (fun g => if 0 < zde z g c then (1 : Int) else 0) 0 g.toNat) → S_ MX9_classed d bc bs Q 50 [(2, 196), (0, c), (0, v), (0, n), (0, g)] [] nN h := by
  intro m
  induction m with
  | zero =>
    intro g n g0 gm hn
    have hG := M.1
    have I := mr_i M
    have hT := I.2.1
    have hP := I.2.2.1
    have hN := I.2.2.2.1
    have nn := M.2.1
    refine s_iload dX9_classed_50 rfl ?_
    refine s_aload_n dX9_classed_52 rfl ?_
    refine s_geti dX9_classed_53 fl_X9_275 kl_7 (by decide) rfl io_196 (z := 7) rfl ?_
    refine s_icmp_ge (tgt := 88) dX9_classed_56 (by decide) (by first | exact hG.2 _ _ | exact b01_in _ | assumption | exact ⟨by omega, by omega⟩) (by first | exact hG.2 _ _ | exact b01_in _ | assumption | exact ⟨by omega, by omega⟩) (fun c1 => ?_) (fun c1 => ?_)
    · rw [hn, show g = z 0 2 by omega]
      exact K _
    · exact absurd c1 (by omega)
  | succ m ih =>
    intro g n g0 gm hn
    have hG := M.1
    have I := mr_i M
    have hT := I.2.1
    have hP := I.2.2.1
    have hN := I.2.2.2.1
    have nn := M.2.1
    refine s_iload dX9_classed_50 rfl ?_
    refine s_aload_n dX9_classed_52 rfl ?_
    refine s_geti dX9_classed_53 fl_X9_275 kl_7 (by decide) rfl io_196 (z := 7) rfl ?_
    refine s_icmp_ge (tgt := 88) dX9_classed_56 (by decide) (by first | exact hG.2 _ _ | exact b01_in _ | assumption | exact ⟨by omega, by omega⟩) (by first | exact hG.2 _ _ | exact b01_in _ | assumption | exact ⟨by omega, by omega⟩) (fun c1 => ?_) (fun c1 => ?_)
    · exact absurd c1 (by omega)
    · refine s_iload_n dX9_classed_59 rfl ?_
      refine s_aload_n dX9_classed_60 rfl ?_
      refine s_getr dX9_classed_61 fl_X9_67 kl_7 (by decide) rfl io_196 (z := 30) rfl (rf_7_30 hG.1 io_196) (rk_7_30 io_196).1 ?_
      refine s_bipush dX9_classed_64 (by decide) ?_
      refine s_iload dX9_classed_66 rfl ?_
      refine s_imul dX9_classed_68 ?_
      refine s_iload_n dX9_classed_69 rfl ?_
      refine s_iadd dX9_classed_70 ?_
      refine s_iaload dX9_classed_71 (rk_7_30 io_196) (by omega) (by omega) ?_
      have zb := hG.2 (196 + 18) (7 * g + c)
      rw [(R.1 g c (by omega) (by omega) (by omega) (by omega)).1] at zb ⊢
      refine s_if_le (tgt := 79) dX9_classed_72 (by decide) (by first | exact hG.2 _ _ | exact b01_in _ | assumption | exact ⟨by omega, by omega⟩) (fun c2 => ?_) (fun c2 => ?_)
      · refine s_iconst dX9_classed_79 ?_
        refine s_iadd dX9_classed_80 ?_
        refine s_istore_n dX9_classed_81 (by decide) rfl (L' := [_, _, _, _, _]) rfl ?_
        refine s_iinc dX9_classed_82 rfl (by decide) rfl (L' := [_, _, _, _, _]) rfl ?_
        refine s_goto (tgt := 50) dX9_classed_85 (by decide) ?_
        exact ih (g + 1) _ (by omega) (by omega) (by rw [sumI_up _ g0, hn]; first | rw [if_pos (by omega)] | rw [if_neg (by omega)])
      · refine s_iconst dX9_classed_75 ?_
        refine s_goto (tgt := 80) dX9_classed_76 (by decide) ?_
        refine s_iadd dX9_classed_80 ?_
        refine s_istore_n dX9_classed_81 (by decide) rfl (L' := [_, _, _, _, _]) rfl ?_
        refine s_iinc dX9_classed_82 rfl (by decide) rfl (L' := [_, _, _, _, _]) rfl ?_
        refine s_goto (tgt := 50) dX9_classed_85 (by decide) ?_
        exact ih (g + 1) _ (by omega) (by omega) (by rw [sumI_up _ g0, hn]; first | rw [if_pos (by omega)] | rw [if_neg (by omega)])
set_option maxRecDepth 100000 in
set_option maxHeartbeats 4000000 in
theorem c_X9_classed {c v : Int} (hd : 10 ≤ d) (M : MR_ h z) (hc : inI c) (hv : inI v) (k : 0 ≤ c → c ≤ 6 → 0 ≤ v → v ≤ 2 → MK_ Q h z 0 (zclassed z c v)) (k1 : ¬ (0 ≤ c ∧ c ≤ 6) → MK_ Q h z 1 0) (k2 : 0 ≤ c → c ≤ 6 → ¬ (0 ≤ v ∧ v ≤ 2) → MK_ Q h z 2 0) : Cl_ yX9_classed MX9_classed d bc bs [(2, 196), (0, c), (0, v)] nN h Q := by
  refine s_enter pn_X9 rfl (Nat.le_of_ble_eq_true rfl) (L := [(2, _), (0, _), (0, _), (9, 0), (9, 0)]) rfl ?_
  have hG := M.1
  have I := mr_i M
  have hT := I.2.1
  have hP := I.2.2.1
  have hN := I.2.2.2.1
  have nn := M.2.1
  refine s_aload_n dX9_classed_0 rfl ?_
  refine s_iload_n dX9_classed_1 rfl ?_
  refine s_callS (d' := d - 1) (bc' := 0) (bs' := 0) (as := [_]) dX9_classed_2 sf_X9_408 (dd_ (by omega) (by decide)) ⟨Nat.zero_le _, Nat.zero_le _⟩ rfl rfl (Nat.le_of_ble_eq_true rfl) ?_
  refine c_X9_isClass (by omega) hc ?_
  refine s_if_ne (tgt := 12) dX9_classed_5 (by decide) (by first | exact hG.2 _ _ | exact b01_in _ | assumption | exact ⟨by omega, by omega⟩) (fun c1 => ?_) (fun c1 => ?_)
  · have c1 := b01_n.mp c1
    refine s_iload_n dX9_classed_12 rfl ?_
    refine s_i2l dX9_classed_13 (by first | exact hG.2 _ _ | exact b01_in _ | assumption | exact ⟨by omega, by omega⟩) ?_
    refine s_lconstz (z := 0) dX9_classed_14 rfl ?_
    refine s_ldc2 dX9_classed_15 kc_X9_415 ?_
    refine s_callS (d' := d - 1) (bc' := 0) (bs' := 0) (as := [_, _, _]) dX9_classed_18 sf_X9_143 (dd_ (by omega) (by decide)) ⟨Nat.zero_le _, Nat.zero_le _⟩ rfl rfl (Nat.le_of_ble_eq_true rfl) ?_
    refine c_X9_isIn (inI_L (by assumption)) ⟨by omega, by omega⟩ ⟨by omega, by omega⟩ ?_
    refine s_if_eq (tgt := 28) dX9_classed_21 (by decide) (by first | exact hG.2 _ _ | exact b01_in _ | assumption | exact ⟨by omega, by omega⟩) (fun c2 => ?_) (fun c2 => ?_)
    · have c2 := b01_0.mp c2
      refine s_iconst dX9_classed_28 ?_
      refine s_putiG 0 dX9_classed_29 fl_X9_98 kl_7 (by decide) rfl rfl io_196 (z := 0) rfl (by decide +kernel) hG (by first | exact hG.2 _ _ | exact b01_in _ | assumption | exact ⟨by omega, by omega⟩) (fun hG1 => ?_)
      obtain ⟨M, fm, th⟩ := mr_th M hG1
      refine s_aload_n dX9_classed_32 rfl ?_
      refine s_geti dX9_classed_33 fl_X9_98 kl_7 (by decide) rfl io_196 (z := 0) rfl ?_
      rw [th]
      refine s_if_le (tgt := 41) dX9_classed_36 (by decide) (by first | exact hG1.2 _ _ | exact hG.2 _ _ | exact b01_in _ | assumption | exact ⟨by omega, by omega⟩) (fun c3 => ?_) (fun c3 => ?_)
      · exact absurd c3 (by decide)
      · refine s_iconst dX9_classed_39 ?_
        exact s_ireturn dX9_classed_40 rfl (k2 (by omega) (by omega) (by omega) _ M fm th)
    · have c2 := b01_n.mp c2
      refine s_iconst dX9_classed_24 ?_
      refine s_goto (tgt := 29) dX9_classed_25 (by decide) ?_
      refine s_putiG 0 dX9_classed_29 fl_X9_98 kl_7 (by decide) rfl rfl io_196 (z := 0) rfl (by decide +kernel) hG (by first | exact hG.2 _ _ | exact b01_in _ | assumption | exact ⟨by omega, by omega⟩) (fun hG2 => ?_)
      obtain ⟨M, fm, th⟩ := mr_th M hG2
      refine s_aload_n dX9_classed_32 rfl ?_
      refine s_geti dX9_classed_33 fl_X9_98 kl_7 (by decide) rfl io_196 (z := 0) rfl ?_
      rw [th]
      refine s_if_le (tgt := 41) dX9_classed_36 (by decide) (by first | exact hG2.2 _ _ | exact hG.2 _ _ | exact b01_in _ | assumption | exact ⟨by omega, by omega⟩) (fun c4 => ?_) (fun c4 => ?_)
      · refine s_aload_n dX9_classed_41 rfl ?_
        refine s_callV (d' := d - 1) (bc' := 0) (bs' := 0) (as := []) dX9_classed_42 vf_X9_405 (dd_ (by omega) (by decide)) ⟨Nat.zero_le _, Nat.zero_le _⟩ rfl rfl (Nat.le_of_ble_eq_true rfl) kl_7 rfl io_196 ?_
        refine c_X9_lays (by omega) M (fun hhG3 ghG3 fhG3 RhG3 => ?_)
        have hG3 := ghG3
        have M := sc_M M ghG3 fhG3
        have fm := fm.tr (sc_fm fhG3)
        have th := (sc_0 fhG3).trans th
        have R9 := RhG3
        have k9 := k (by omega) (by omega) (by omega) (by omega) _ M fm th
        refine s_iconst dX9_classed_45 ?_
        refine s_istore_n dX9_classed_46 (by decide) rfl (L' := [_, _, _, _, _]) rfl ?_
        refine s_iconst dX9_classed_47 ?_
        refine s_istore dX9_classed_48 (by decide) rfl (L' := [_, _, _, _, _]) rfl ?_
        have hG := hG3
        refine lp_X9_classed M R9 (by omega) (by omega) (fun g9 => ?_) (z 0 2).toNat 0 0 (by omega) (by omega) rfl
        refine s_iload_n dX9_classed_88 rfl ?_
        refine s_if_ne (tgt := 104) dX9_classed_89 (by decide) (by first | exact hG.2 _ _ | exact b01_in _ | assumption | exact ⟨by omega, by omega⟩) (fun c1 => ?_) (fun c1 => ?_)
        · refine s_iload_n dX9_classed_104 rfl ?_
          refine s_iconst dX9_classed_105 ?_
          refine s_icmp_ne (tgt := 121) dX9_classed_106 (by decide) (by first | exact hG.2 _ _ | exact b01_in _ | assumption | exact ⟨by omega, by omega⟩) (by first | exact hG.2 _ _ | exact b01_in _ | assumption | exact ⟨by omega, by omega⟩) (fun c2 => ?_) (fun c2 => ?_)
          · refine s_iload_n dX9_classed_121 rfl ?_
            exact s_ireturn dX9_classed_122 rfl (q_val (by unfold zclassed; rw [if_neg (by omega), if_neg (by omega)]) k9)
          · refine s_aload_n dX9_classed_109 rfl ?_
            refine s_aload_n dX9_classed_110 rfl ?_
            refine s_getr dX9_classed_111 fl_X9_70 kl_7 (by decide) rfl io_196 (z := 31) rfl (rf_7_31 hG.1 io_196) (rk_7_31 io_196).1 ?_
            refine s_iload_n dX9_classed_114 rfl ?_
            refine s_callV (d' := d - 1) (bc' := 0) (bs' := 0) (as := [_, _]) dX9_classed_115 vf_X9_356 (dd_ (by omega) (by decide)) ⟨Nat.zero_le _, Nat.zero_le _⟩ rfl rfl (Nat.le_of_ble_eq_true rfl) kl_7 rfl io_196 ?_
            refine c_X9_sumOf (rk_7_31 io_196) M (by omega) (by omega) ?_
            refine s_goto (tgt := 122) dX9_classed_118 (by decide) ?_
            exact s_ireturn dX9_classed_122 rfl (q_val (by unfold zclassed; rw [if_neg (by omega), if_pos (by omega)]; exact (sumI_congr _ _ (fun i i0 i1 => ((R9.1 i c (by omega) (by omega) (by omega) (by omega)).2))).symm) k9)
        · refine s_aload_n dX9_classed_92 rfl ?_
          refine s_aload_n dX9_classed_93 rfl ?_
          refine s_getr dX9_classed_94 fl_X9_67 kl_7 (by decide) rfl io_196 (z := 30) rfl (rf_7_30 hG.1 io_196) (rk_7_30 io_196).1 ?_
          refine s_iload_n dX9_classed_97 rfl ?_
          refine s_callV (d' := d - 1) (bc' := 0) (bs' := 0) (as := [_, _]) dX9_classed_98 vf_X9_356 (dd_ (by omega) (by decide)) ⟨Nat.zero_le _, Nat.zero_le _⟩ rfl rfl (Nat.le_of_ble_eq_true rfl) kl_7 rfl io_196 ?_
          refine c_X9_sumOf (rk_7_30 io_196) M (by omega) (by omega) ?_
          refine s_goto (tgt := 122) dX9_classed_101 (by decide) ?_
          exact s_ireturn dX9_classed_122 rfl (q_val (by unfold zclassed; rw [if_pos (by omega)]; exact (sumI_congr _ _ (fun i i0 i1 => ((R9.1 i c (by omega) (by omega) (by omega) (by omega)).1))).symm) k9)
      · exact absurd c4 (by decide)
  · have c1 := b01_0.mp c1
    refine s_iconst dX9_classed_8 ?_
    refine s_goto (tgt := 29) dX9_classed_9 (by decide) ?_
    refine s_putiG 0 dX9_classed_29 fl_X9_98 kl_7 (by decide) rfl rfl io_196 (z := 0) rfl (by decide +kernel) hG (by first | exact hG.2 _ _ | exact b01_in _ | assumption | exact ⟨by omega, by omega⟩) (fun hG4 => ?_)
    obtain ⟨M, fm, th⟩ := mr_th M hG4
    refine s_aload_n dX9_classed_32 rfl ?_
    refine s_geti dX9_classed_33 fl_X9_98 kl_7 (by decide) rfl io_196 (z := 0) rfl ?_
    rw [th]
    refine s_if_le (tgt := 41) dX9_classed_36 (by decide) (by first | exact hG4.2 _ _ | exact hG.2 _ _ | exact b01_in _ | assumption | exact ⟨by omega, by omega⟩) (fun c5 => ?_) (fun c5 => ?_)
    · exact absurd c5 (by decide)
    · refine s_iconst dX9_classed_39 ?_
      exact s_ireturn dX9_classed_40 rfl (k1 (by omega) _ M fm th)
set_option maxRecDepth 100000 in
set_option maxHeartbeats 4000000 in
theorem c_X9_itself {g : Int} (hd : 10 ≤ d) (M : MR_ h z) (hg : inI g) (k : 0 ≤ g → g < z 0 2 → z 5 g = 0 → MK_ Q h z 0 (zitself z g)) (k1 : ¬ (0 ≤ g ∧ g < z 0 2) → MK_ Q h z 1 0) (k2 : 0 ≤ g → g < z 0 2 → ¬ z 5 g = 0 → MK_ Q h z 2 0) : Cl_ yX9_itself MX9_itself d bc bs [(2, 196), (0, g)] nN h Q := by
  refine s_enter pn_X9 rfl (Nat.le_of_ble_eq_true rfl) (L := [(2, _), (0, _)]) rfl ?_
  have hG := M.1
  have I := mr_i M
  have hT := I.2.1
  have hP := I.2.2.1
  have hN := I.2.2.2.1
  have nn := M.2.1
  refine s_aload_n dX9_itself_0 rfl ?_
  refine s_aload_n dX9_itself_1 rfl ?_
  refine s_iload_n dX9_itself_2 rfl ?_
  refine s_callV (d' := d - 1) (bc' := 0) (bs' := 0) (as := [_]) dX9_itself_3 vf_X9_319 (dd_ (by omega) (by decide)) ⟨Nat.zero_le _, Nat.zero_le _⟩ rfl rfl (Nat.le_of_ble_eq_true rfl) kl_7 rfl io_196 ?_
  refine c_X9_isGift (by omega) M hg ?_
  refine s_if_ne (tgt := 13) dX9_itself_6 (by decide) (by first | exact hG.2 _ _ | exact b01_in _ | assumption | exact ⟨by omega, by omega⟩) (fun c1 => ?_) (fun c1 => ?_)
  · have c1 := b01_n.mp c1
    refine s_aload_n dX9_itself_13 rfl ?_
    refine s_iload_n dX9_itself_14 rfl ?_
    refine s_iconst dX9_itself_15 ?_
    refine s_callV (d' := d - 1) (bc' := 0) (bs' := 0) (as := [_, _]) dX9_itself_16 vf_X9_317 (dd_ (by omega) (by decide)) ⟨Nat.zero_le _, Nat.zero_le _⟩ rfl rfl (Nat.le_of_ble_eq_true rfl) kl_7 rfl io_196 ?_
    have gg := I.2.2.2.2.2 g (by omega) (by omega)
    refine c_X9_of M (by omega) (by omega) (by omega) (by omega) (j := 5) (by omega) ?_
    refine s_if_ne (tgt := 26) dX9_itself_19 (by decide) (by first | exact hG.2 _ _ | exact b01_in _ | assumption | exact ⟨by omega, by omega⟩) (fun c2 => ?_) (fun c2 => ?_)
    · refine s_iconst dX9_itself_26 ?_
      refine s_putiG 0 dX9_itself_27 fl_X9_98 kl_7 (by decide) rfl rfl io_196 (z := 0) rfl (by decide +kernel) hG (by first | exact hG.2 _ _ | exact b01_in _ | assumption | exact ⟨by omega, by omega⟩) (fun hG1 => ?_)
      obtain ⟨M, fm, th⟩ := mr_th M hG1
      refine s_aload_n dX9_itself_30 rfl ?_
      refine s_geti dX9_itself_31 fl_X9_98 kl_7 (by decide) rfl io_196 (z := 0) rfl ?_
      rw [th]
      refine s_if_le (tgt := 39) dX9_itself_34 (by decide) (by first | exact hG1.2 _ _ | exact hG.2 _ _ | exact b01_in _ | assumption | exact ⟨by omega, by omega⟩) (fun c3 => ?_) (fun c3 => ?_)
      · exact absurd c3 (by decide)
      · refine s_iconst dX9_itself_37 ?_
        exact s_zreturn dX9_itself_38 rfl (Or.inl rfl) (k2 (by omega) (by omega) (by omega) _ M fm th)
    · refine s_iconst dX9_itself_22 ?_
      refine s_goto (tgt := 27) dX9_itself_23 (by decide) ?_
      refine s_putiG 0 dX9_itself_27 fl_X9_98 kl_7 (by decide) rfl rfl io_196 (z := 0) rfl (by decide +kernel) hG (by first | exact hG.2 _ _ | exact b01_in _ | assumption | exact ⟨by omega, by omega⟩) (fun hG2 => ?_)
      obtain ⟨M, fm, th⟩ := mr_th M hG2
      refine s_aload_n dX9_itself_30 rfl ?_
      refine s_geti dX9_itself_31 fl_X9_98 kl_7 (by decide) rfl io_196 (z := 0) rfl ?_
      rw [th]
      refine s_if_le (tgt := 39) dX9_itself_34 (by decide) (by first | exact hG2.2 _ _ | exact hG.2 _ _ | exact b01_in _ | assumption | exact ⟨by omega, by omega⟩) (fun c4 => ?_) (fun c4 => ?_)
      · refine s_aload_n dX9_itself_39 rfl ?_
        refine s_callV (d' := d - 1) (bc' := 0) (bs' := 0) (as := []) dX9_itself_40 vf_X9_405 (dd_ (by omega) (by decide)) ⟨Nat.zero_le _, Nat.zero_le _⟩ rfl rfl (Nat.le_of_ble_eq_true rfl) kl_7 rfl io_196 ?_
        refine c_X9_lays (by omega) M (fun hhG3 ghG3 fhG3 RhG3 => ?_)
        have hG3 := ghG3
        have M := sc_M M ghG3 fhG3
        have fm := fm.tr (sc_fm fhG3)
        have th := (sc_0 fhG3).trans th
        have R9 := RhG3
        refine s_aload_n dX9_itself_43 rfl ?_
        refine s_iload_n dX9_itself_44 rfl ?_
        refine s_callV (d' := d - 1) (bc' := 0) (bs' := 0) (as := [_]) dX9_itself_45 vf_X9_322 (dd_ (by omega) (by decide)) ⟨Nat.zero_le _, Nat.zero_le _⟩ rfl rfl (Nat.le_of_ble_eq_true rfl) kl_7 rfl io_196 ?_
        refine c_X9_lapses (by omega) M (by omega) (by omega) (fun hhG4 ghG4 fhG4 => ?_)
        have hG4 := ghG4
        have M := sc_M M ghG4 (sc_16 fhG4)
        have fm := fm.tr (sc_fm (sc_16 fhG4))
        have th := (sc_0 (sc_16 fhG4)).trans th
        have k9 := k (by omega) (by omega) (by omega) _ M fm th
        have rc := (fhG4 196 33 (by omega)).trans R9.2.1
        have lb : inI (zlp z g) := by unfold zlp; exact b01_in _
        refine s_if_ne (tgt := 76) dX9_itself_48 (by decide) (by first | exact hG4.2 _ _ | exact hG.2 _ _ | exact b01_in _ | assumption | exact ⟨by omega, by omega⟩) (fun c5 => ?_) (fun c5 => ?_)
        · refine s_iconst dX9_itself_76 ?_
          exact s_zreturn dX9_itself_77 rfl (Or.inl rfl) (q_val (by unfold zitself; exact b01_f (fun q => by omega)) k9)
        · refine s_aload_n dX9_itself_51 rfl ?_
          refine s_aload_n dX9_itself_52 rfl ?_
          refine s_iload_n dX9_itself_53 rfl ?_
          refine s_iconst dX9_itself_54 ?_
          refine s_callV (d' := d - 1) (bc' := 0) (bs' := 0) (as := [_, _]) dX9_itself_55 vf_X9_317 (dd_ (by omega) (by decide)) ⟨Nat.zero_le _, Nat.zero_le _⟩ rfl rfl (Nat.le_of_ble_eq_true rfl) kl_7 rfl io_196 ?_
          have t9 := gg.2.2.1 (by omega)
          have b8 := (I.1.1 (z 7 g) (by omega) (by omega)).2.1
          refine c_X9_of M (by omega) (by omega) (by omega) (by omega) (j := 7) (by omega) ?_
          refine s_iconst dX9_itself_58 ?_
          refine s_callV (d' := d - 1) (bc' := 0) (bs' := 0) (as := [_, _]) dX9_itself_59 vf_X9_300 (dd_ (by omega) (by decide)) ⟨Nat.zero_le _, Nat.zero_le _⟩ rfl rfl (Nat.le_of_ble_eq_true rfl) kl_7 rfl io_196 ?_
          refine c_X9_ofThing M (by omega) (by omega) (by omega) (by omega) (j := 8 + z 7 g) (by omega) ?_
          refine s_if_ne (tgt := 76) dX9_itself_62 (by decide) (by first | exact hG4.2 _ _ | exact hG.2 _ _ | exact b01_in _ | assumption | exact ⟨by omega, by omega⟩) (fun c6 => ?_) (fun c6 => ?_)
          · refine s_iconst dX9_itself_76 ?_
            exact s_zreturn dX9_itself_77 rfl (Or.inl rfl) (q_val (by unfold zitself; exact b01_f (fun q => by omega)) k9)
          · refine s_aload_n dX9_itself_65 rfl ?_
            refine s_geti dX9_itself_66 fl_X9_365 kl_7 (by decide) rfl io_196 (z := 33) rfl ?_
            refine s_if_eq (tgt := 76) dX9_itself_69 (by decide) (by first | exact hG4.2 _ _ | exact hG.2 _ _ | exact b01_in _ | assumption | exact ⟨by omega, by omega⟩) (fun c7 => ?_) (fun c7 => ?_)
            · refine s_iconst dX9_itself_76 ?_
              exact s_zreturn dX9_itself_77 rfl (Or.inl rfl) (q_val (by unfold zitself; exact b01_f (fun q => by omega)) k9)
            · refine s_iconst dX9_itself_72 ?_
              refine s_goto (tgt := 77) dX9_itself_73 (by decide) ?_
              exact s_zreturn dX9_itself_77 rfl (Or.inr rfl) (q_val (by unfold zitself; exact b01_t ⟨by omega, by omega, by omega⟩) k9)
      · exact absurd c4 (by decide)
  · have c1 := b01_0.mp c1
    refine s_iconst dX9_itself_9 ?_
    refine s_goto (tgt := 27) dX9_itself_10 (by decide) ?_
    refine s_putiG 0 dX9_itself_27 fl_X9_98 kl_7 (by decide) rfl rfl io_196 (z := 0) rfl (by decide +kernel) hG (by first | exact hG.2 _ _ | exact b01_in _ | assumption | exact ⟨by omega, by omega⟩) (fun hG5 => ?_)
    obtain ⟨M, fm, th⟩ := mr_th M hG5
    refine s_aload_n dX9_itself_30 rfl ?_
    refine s_geti dX9_itself_31 fl_X9_98 kl_7 (by decide) rfl io_196 (z := 0) rfl ?_
    rw [th]
    refine s_if_le (tgt := 39) dX9_itself_34 (by decide) (by first | exact hG5.2 _ _ | exact hG.2 _ _ | exact b01_in _ | assumption | exact ⟨by omega, by omega⟩) (fun c8 => ?_) (fun c8 => ?_)
    · exact absurd c8 (by decide)
    · refine s_iconst dX9_itself_37 ?_
      exact s_zreturn dX9_itself_38 rfl (Or.inl rfl) (k1 (by omega) _ M fm th)
set_option maxRecDepth 100000 in
set_option maxHeartbeats 4000000 in
theorem lp_X9_dueUntil {c : Int} (hG : G h) (c0 : 0 ≤ c) (c4 : c ≤ 4) (sD : ∀ j : Int, 0 ≤ j → j < 7 → h (196 + 20) j = cs_ (zdu z) (z 0 2) j) (k : Q.1 (some (0, zdut z c)) nN h) : ∀ (m : Nat) (i w : Int), (0 ≤ i) → (i + m = c + 1) → (w = sumI (fun k => sumI (fun g => zde z g k) 0 (z 0 2).toNat) 0 i.toNat) → S_ MX9_dueUntil d bc bs Q 8 [(2, 196), (0, c), (0, w), (0, i)] [] nN h := by
  intro m
  induction m with
  | zero =>
    intro i w i0 im hw
    refine s_iload_n dX9_dueUntil_8 rfl ?_
    refine s_iload_n dX9_dueUntil_9 rfl ?_
    refine s_icmp_gt (tgt := 28) dX9_dueUntil_10 (by decide) (by first | exact hG.2 _ _ | exact b01_in _ | assumption | exact ⟨by omega, by omega⟩) (by first | exact hG.2 _ _ | exact b01_in _ | assumption | exact ⟨by omega, by omega⟩) (fun c1 => ?_) (fun c1 => ?_)
    · refine s_iload_n dX9_dueUntil_28 rfl ?_
      rw [hw, show i = c + 1 by omega]
      exact s_ireturn dX9_dueUntil_29 rfl k
    · exact absurd c1 (by omega)
  | succ m ih =>
    intro i w i0 im hw
    refine s_iload_n dX9_dueUntil_8 rfl ?_
    refine s_iload_n dX9_dueUntil_9 rfl ?_
    refine s_icmp_gt (tgt := 28) dX9_dueUntil_10 (by decide) (by first | exact hG.2 _ _ | exact b01_in _ | assumption | exact ⟨by omega, by omega⟩) (by first | exact hG.2 _ _ | exact b01_in _ | assumption | exact ⟨by omega, by omega⟩) (fun c1 => ?_) (fun c1 => ?_)
    · exact absurd c1 (by omega)
    · refine s_iload_n dX9_dueUntil_13 rfl ?_
      refine s_aload_n dX9_dueUntil_14 rfl ?_
      refine s_getr dX9_dueUntil_15 fl_X9_73 kl_7 (by decide) rfl io_196 (z := 32) rfl (rf_7_32 hG.1 io_196) (rk_7_32 io_196).1 ?_
      refine s_iload_n dX9_dueUntil_18 rfl ?_
      refine s_iaload dX9_dueUntil_19 (rk_7_32 io_196) (by omega) (by omega) ?_
      rw [sD i i0 (by omega)]
      refine s_iadd dX9_dueUntil_20 ?_
      refine s_istore_n dX9_dueUntil_21 (by decide) rfl (L' := [_, _, _, _]) rfl ?_
      refine s_iinc dX9_dueUntil_22 rfl (by decide) rfl (L' := [_, _, _, _]) rfl ?_
      refine s_goto (tgt := 8) dX9_dueUntil_25 (by decide) ?_
      exact ih (i + 1) _ (by omega) (by omega) (by rw [sumI_up _ i0, hw, sumI_congr (f := fun g => zde z g i) (g := fun g => zdu z g i) _ _ (fun j j0 j1 => zde_lo (by omega))]; rfl)
set_option maxRecDepth 100000 in
set_option maxHeartbeats 4000000 in
theorem c_X9_dueUntil {c : Int} (hd : 7 ≤ d) (M : MR_ h z) (c0 : 0 ≤ c) (c4 : c ≤ 4) (k : ∀ h1 : PH, G h1 → SC_ h h1 → (∀ j : Int, 0 ≤ j → j < 7 → h1 (196 + 20) j = cs_ (zdu z) (z 0 2) j) → Q.1 (some (0, zdut z c)) nN h1) : Cl_ yX9_dueUntil MX9_dueUntil d bc bs [(2, 196), (0, c)] nN h Q := by
  refine s_enter pn_X9 rfl (Nat.le_of_ble_eq_true rfl) (L := [(2, _), (0, _), (9, 0), (9, 0)]) rfl ?_
  have hG := M.1
  have I := mr_i M
  have hT := I.2.1
  have hP := I.2.2.1
  have hN := I.2.2.2.1
  have nn := M.2.1
  refine s_aload_n dX9_dueUntil_0 rfl ?_
  refine s_callV (d' := d - 1) (bc' := 0) (bs' := 0) (as := []) dX9_dueUntil_1 vf_X9_373 (dd_ (by omega) (by decide)) ⟨Nat.zero_le _, Nat.zero_le _⟩ rfl rfl (Nat.le_of_ble_eq_true rfl) kl_7 rfl io_196 ?_
  refine c_X9_laysDue (by omega) M (fun hD gD fD dD zD sD => ?_)
  have hG1 := gD
  refine s_iconst dX9_dueUntil_4 ?_
  refine s_istore_n dX9_dueUntil_5 (by decide) rfl (L' := [_, _, _, _]) rfl ?_
  refine s_iconst dX9_dueUntil_6 ?_
  refine s_istore_n dX9_dueUntil_7 (by decide) rfl (L' := [_, _, _, _]) rfl ?_
  exact lp_X9_dueUntil gD c0 c4 sD (k hD gD (fun x y a b => fD x y (by omega) (by omega) (by omega) (by omega)) sD) (c + 1).toNat 0 0 (by omega) (by omega) rfl
set_option maxRecDepth 100000 in
set_option maxHeartbeats 4000000 in
theorem c_X9_leastDebt {c : Int} (hd : 10 ≤ d) (M : MR_ h z) (hc : inI c) (k : 0 ≤ c → c ≤ 4 → MK_ Q h z 0 (zleast z c)) (k1 : ¬ (0 ≤ c ∧ c ≤ 4) → MK_ Q h z 1 0) : Cl_ yX9_leastDebt MX9_leastDebt d bc bs [(2, 196), (0, c)] nN h Q := by
  refine s_enter pn_X9 rfl (Nat.le_of_ble_eq_true rfl) (L := [(2, _), (0, _), (9, 0), (9, 0)]) rfl ?_
  have hG := M.1
  have I := mr_i M
  have hT := I.2.1
  have hP := I.2.2.1
  have hN := I.2.2.2.1
  have nn := M.2.1
  have zeb := zes_bd I
  refine s_aload_n dX9_leastDebt_0 rfl ?_
  refine s_iload_n dX9_leastDebt_1 rfl ?_
  refine s_callS (d' := d - 1) (bc' := 0) (bs' := 0) (as := [_]) dX9_leastDebt_2 sf_X9_417 (dd_ (by omega) (by decide)) ⟨Nat.zero_le _, Nat.zero_le _⟩ rfl rfl (Nat.le_of_ble_eq_true rfl) ?_
  refine c_X9_isEarly (by omega) hc ?_
  refine s_if_eq (tgt := 12) dX9_leastDebt_5 (by decide) (by first | exact hG.2 _ _ | exact b01_in _ | assumption | exact ⟨by omega, by omega⟩) (fun c1 => ?_) (fun c1 => ?_)
  · have c1 := b01_0.mp c1
    refine s_iconst dX9_leastDebt_12 ?_
    refine s_putiG 0 dX9_leastDebt_13 fl_X9_98 kl_7 (by decide) rfl rfl io_196 (z := 0) rfl (by decide +kernel) hG (by first | exact hG.2 _ _ | exact b01_in _ | assumption | exact ⟨by omega, by omega⟩) (fun hG1 => ?_)
    obtain ⟨M, fm, th⟩ := mr_th M hG1
    refine s_aload_n dX9_leastDebt_16 rfl ?_
    refine s_geti dX9_leastDebt_17 fl_X9_98 kl_7 (by decide) rfl io_196 (z := 0) rfl ?_
    rw [th]
    refine s_if_le (tgt := 25) dX9_leastDebt_20 (by decide) (by first | exact hG1.2 _ _ | exact hG.2 _ _ | exact b01_in _ | assumption | exact ⟨by omega, by omega⟩) (fun c2 => ?_) (fun c2 => ?_)
    · exact absurd c2 (by decide)
    · refine s_iconst dX9_leastDebt_23 ?_
      exact s_ireturn dX9_leastDebt_24 rfl (k1 (by omega) _ M fm th)
  · have c1 := b01_n.mp c1
    refine s_iconst dX9_leastDebt_8 ?_
    refine s_goto (tgt := 13) dX9_leastDebt_9 (by decide) ?_
    refine s_putiG 0 dX9_leastDebt_13 fl_X9_98 kl_7 (by decide) rfl rfl io_196 (z := 0) rfl (by decide +kernel) hG (by first | exact hG.2 _ _ | exact b01_in _ | assumption | exact ⟨by omega, by omega⟩) (fun hG2 => ?_)
    obtain ⟨M, fm, th⟩ := mr_th M hG2
    refine s_aload_n dX9_leastDebt_16 rfl ?_
    refine s_geti dX9_leastDebt_17 fl_X9_98 kl_7 (by decide) rfl io_196 (z := 0) rfl ?_
    rw [th]
    refine s_if_le (tgt := 25) dX9_leastDebt_20 (by decide) (by first | exact hG2.2 _ _ | exact hG.2 _ _ | exact b01_in _ | assumption | exact ⟨by omega, by omega⟩) (fun c3 => ?_) (fun c3 => ?_)
    · refine s_aload_n dX9_leastDebt_25 rfl ?_
      refine s_iload_n dX9_leastDebt_26 rfl ?_
      refine s_callV (d' := d - 1) (bc' := 0) (bs' := 0) (as := [_]) dX9_leastDebt_27 vf_X9_420 (dd_ (by omega) (by decide)) ⟨Nat.zero_le _, Nat.zero_le _⟩ rfl rfl (Nat.le_of_ble_eq_true rfl) kl_7 rfl io_196 ?_
      refine c_X9_dueUntil (by omega) M (by omega) (by omega) (fun hhG3 ghG3 fhG3 shG3 => ?_)
      have hG3 := ghG3
      have M := sc_M M ghG3 fhG3
      have fm := fm.tr (sc_fm fhG3)
      have th := (sc_0 fhG3).trans th
      have sD := shG3
      have k9 := k (by omega) (by omega) _ M fm th
      have db := zdut_bd I (c := c) (by omega) (by omega)
      have cb := zsd_bd I (c := c) (by omega) (by omega)
      refine s_istore_n dX9_leastDebt_30 (by decide) rfl (L' := [_, _, _, _]) rfl ?_
      refine s_aload_n dX9_leastDebt_31 rfl ?_
      refine s_getr dX9_leastDebt_32 fl_X9_73 kl_7 (by decide) rfl io_196 (z := 32) rfl (rf_7_32 hG3.1 io_196) (rk_7_32 io_196).1 ?_
      refine s_iload_n dX9_leastDebt_35 rfl ?_
      refine s_iaload dX9_leastDebt_36 (rk_7_32 io_196) (by omega) (by omega) ?_
      rw [sD c (by omega) (by omega), show cs_ (zdu z) (z 0 2) c = sumI (fun g => zde z g c) 0 (z 0 2).toNat from sumI_congr _ _ (fun i i0 i1 => (zde_lo (by omega)).symm)]
      refine s_if_ne (tgt := 42) dX9_leastDebt_37 (by decide) (by first | exact hG3.2 _ _ | exact hG.2 _ _ | exact b01_in _ | assumption | exact ⟨by omega, by omega⟩) (fun c4 => ?_) (fun c4 => ?_)
      · refine s_aload_n dX9_leastDebt_42 rfl ?_
        refine s_callV (d' := d - 1) (bc' := 0) (bs' := 0) (as := []) dX9_leastDebt_43 vf_X9_376 (dd_ (by omega) (by decide)) ⟨Nat.zero_le _, Nat.zero_le _⟩ rfl rfl (Nat.le_of_ble_eq_true rfl) kl_7 rfl io_196 ?_
        refine c_X9_estateNow (by omega) M ?_
        refine s_iload_n dX9_leastDebt_46 rfl ?_
        refine s_isub dX9_leastDebt_47 ?_
        refine s_iconst dX9_leastDebt_48 ?_
        refine s_iadd dX9_leastDebt_49 ?_
        refine s_istore_n dX9_leastDebt_50 (by decide) rfl (L' := [_, _, _, _]) rfl ?_
        refine s_iload_n dX9_leastDebt_51 rfl ?_
        refine s_if_ge (tgt := 59) dX9_leastDebt_52 (by decide) (by first | exact hG3.2 _ _ | exact hG.2 _ _ | exact b01_in _ | assumption | exact ⟨by omega, by omega⟩) (fun c5 => ?_) (fun c5 => ?_)
        · refine s_iload_n dX9_leastDebt_59 rfl ?_
          exact s_ireturn dX9_leastDebt_60 rfl (q_val (by unfold zleast; rw [if_neg (by omega)]; omega) k9)
        · refine s_iconst dX9_leastDebt_55 ?_
          refine s_goto (tgt := 60) dX9_leastDebt_56 (by decide) ?_
          exact s_ireturn dX9_leastDebt_60 rfl (q_val (by unfold zleast; rw [if_neg (by omega)]; omega) k9)
      · refine s_iconst dX9_leastDebt_40 ?_
        exact s_ireturn dX9_leastDebt_41 rfl (q_val (by unfold zleast; exact if_pos (by omega)) k9)
    · exact absurd c3 (by decide)
set_option maxRecDepth 100000 in
set_option maxHeartbeats 4000000 in
theorem c_X9_needed {c : Int} (hd : 10 ≤ d) (M : MR_ h z) (hc : inI c) (k : 0 ≤ c → c ≤ 4 → MK_ Q h z 0 (zneed z c)) (k1 : ¬ (0 ≤ c ∧ c ≤ 4) → MK_ Q h z 1 0) : Cl_ yX9_needed MX9_needed d bc bs [(2, 196), (0, c)] nN h Q := by
  refine s_enter pn_X9 rfl (Nat.le_of_ble_eq_true rfl) (L := [(2, _), (0, _), (9, 0), (9, 0)]) rfl ?_
  have hG := M.1
  have I := mr_i M
  have hT := I.2.1
  have hP := I.2.2.1
  have hN := I.2.2.2.1
  have nn := M.2.1
  have zeb := zes_bd I
  have b57 := I.1.2.2.2.1
  have b56 := I.1.2.2.1
  have ze9 := zes_b (z := z)
  refine s_aload_n dX9_needed_0 rfl ?_
  refine s_iload_n dX9_needed_1 rfl ?_
  refine s_callS (d' := d - 1) (bc' := 0) (bs' := 0) (as := [_]) dX9_needed_2 sf_X9_417 (dd_ (by omega) (by decide)) ⟨Nat.zero_le _, Nat.zero_le _⟩ rfl rfl (Nat.le_of_ble_eq_true rfl) ?_
  refine c_X9_isEarly (by omega) hc ?_
  refine s_if_eq (tgt := 12) dX9_needed_5 (by decide) (by first | exact hG.2 _ _ | exact b01_in _ | assumption | exact ⟨by omega, by omega⟩) (fun c1 => ?_) (fun c1 => ?_)
  · have c1 := b01_0.mp c1
    refine s_iconst dX9_needed_12 ?_
    refine s_putiG 0 dX9_needed_13 fl_X9_98 kl_7 (by decide) rfl rfl io_196 (z := 0) rfl (by decide +kernel) hG (by first | exact hG.2 _ _ | exact b01_in _ | assumption | exact ⟨by omega, by omega⟩) (fun hG1 => ?_)
    obtain ⟨M, fm, th⟩ := mr_th M hG1
    refine s_aload_n dX9_needed_16 rfl ?_
    refine s_geti dX9_needed_17 fl_X9_98 kl_7 (by decide) rfl io_196 (z := 0) rfl ?_
    rw [th]
    refine s_if_le (tgt := 25) dX9_needed_20 (by decide) (by first | exact hG1.2 _ _ | exact hG.2 _ _ | exact b01_in _ | assumption | exact ⟨by omega, by omega⟩) (fun c2 => ?_) (fun c2 => ?_)
    · exact absurd c2 (by decide)
    · refine s_iconst dX9_needed_23 ?_
      exact s_ireturn dX9_needed_24 rfl (k1 (by omega) _ M fm th)
  · have c1 := b01_n.mp c1
    refine s_iconst dX9_needed_8 ?_
    refine s_goto (tgt := 13) dX9_needed_9 (by decide) ?_
    refine s_putiG 0 dX9_needed_13 fl_X9_98 kl_7 (by decide) rfl rfl io_196 (z := 0) rfl (by decide +kernel) hG (by first | exact hG.2 _ _ | exact b01_in _ | assumption | exact ⟨by omega, by omega⟩) (fun hG2 => ?_)
    obtain ⟨M, fm, th⟩ := mr_th M hG2
    refine s_aload_n dX9_needed_16 rfl ?_
    refine s_geti dX9_needed_17 fl_X9_98 kl_7 (by decide) rfl io_196 (z := 0) rfl ?_
    rw [th]
    refine s_if_le (tgt := 25) dX9_needed_20 (by decide) (by first | exact hG2.2 _ _ | exact hG.2 _ _ | exact b01_in _ | assumption | exact ⟨by omega, by omega⟩) (fun c3 => ?_) (fun c3 => ?_)
    · refine s_aload_n dX9_needed_25 rfl ?_
      refine s_iload_n dX9_needed_26 rfl ?_
      refine s_callV (d' := d - 1) (bc' := 0) (bs' := 0) (as := [_]) dX9_needed_27 vf_X9_420 (dd_ (by omega) (by decide)) ⟨Nat.zero_le _, Nat.zero_le _⟩ rfl rfl (Nat.le_of_ble_eq_true rfl) kl_7 rfl io_196 ?_
      refine c_X9_dueUntil (by omega) M (by omega) (by omega) (fun hhG3 ghG3 fhG3 shG3 => ?_)
      have hG3 := ghG3
      have M := sc_M M ghG3 fhG3
      have fm := fm.tr (sc_fm fhG3)
      have th := (sc_0 fhG3).trans th
      have sD := shG3
      have k9 := k (by omega) (by omega) _ M fm th
      have db := zdut_bd I (c := c) (by omega) (by omega)
      have cb := zsd_bd I (c := c) (by omega) (by omega)
      have e57 := mr_f M 57 (by omega) (by omega)
      rw [pm_h (by omega)] at e57
      refine s_istore_n dX9_needed_30 (by decide) rfl (L' := [_, _, _, _]) rfl ?_
      refine s_iload_n dX9_needed_31 rfl ?_
      refine s_if_ne (tgt := 39) dX9_needed_32 (by decide) (by first | exact hG3.2 _ _ | exact hG.2 _ _ | exact b01_in _ | assumption | exact ⟨by omega, by omega⟩) (fun c4 => ?_) (fun c4 => ?_)
      · refine s_iload_n dX9_needed_39 rfl ?_
        refine s_aload_n dX9_needed_40 rfl ?_
        refine s_getr dX9_needed_41 fl_X9_7 kl_7 (by decide) rfl io_196 (z := 1) rfl (rf_7_1 hG3.1 io_196) (rk_7_1 io_196).1 ?_
        refine s_bipush dX9_needed_44 (by decide) ?_
        refine s_iaload dX9_needed_46 (rk_7_1 io_196) (by omega) (by omega) ?_
        rw [e57]
        refine s_iadd dX9_needed_47 ?_
        refine s_aload_n dX9_needed_48 rfl ?_
        refine s_callV (d' := d - 1) (bc' := 0) (bs' := 0) (as := []) dX9_needed_49 vf_X9_350 (dd_ (by omega) (by decide)) ⟨Nat.zero_le _, Nat.zero_le _⟩ rfl rfl (Nat.le_of_ble_eq_true rfl) kl_7 rfl io_196 ?_
        refine c_X9_broughtAll (by omega) M ?_
        rw [show sumI (fun p => zbr z p) 0 (z 0 0).toNat = sumI (zbr z) 0 (z 0 0).toNat from rfl]
        refine s_isub dX9_needed_52 ?_
        refine s_istore_n dX9_needed_53 (by decide) rfl (L' := [_, _, _, _]) rfl ?_
        refine s_iload_n dX9_needed_54 rfl ?_
        refine s_ldc dX9_needed_55 kc_X9_240 ?_
        refine s_icmp_le (tgt := 64) dX9_needed_57 (by decide) (by first | exact hG3.2 _ _ | exact hG.2 _ _ | exact b01_in _ | assumption | exact ⟨by omega, by omega⟩) (by first | exact hG3.2 _ _ | exact hG.2 _ _ | exact b01_in _ | assumption | exact ⟨by omega, by omega⟩) (fun c5 => ?_) (fun c5 => ?_)
        · refine s_iload_n dX9_needed_64 rfl ?_
          refine s_if_ge (tgt := 72) dX9_needed_65 (by decide) (by first | exact hG3.2 _ _ | exact hG.2 _ _ | exact b01_in _ | assumption | exact ⟨by omega, by omega⟩) (fun c6 => ?_) (fun c6 => ?_)
          · refine s_iload_n dX9_needed_72 rfl ?_
            exact s_ireturn dX9_needed_73 rfl (q_val (by unfold zneed; first | exact if_pos (by omega) | (rw [if_neg (by omega), if_pos (by omega)]; done) | (rw [if_neg (by omega), if_neg (by omega)]; omega)) k9)
          · refine s_iconst dX9_needed_68 ?_
            refine s_goto (tgt := 73) dX9_needed_69 (by decide) ?_
            exact s_ireturn dX9_needed_73 rfl (q_val (by unfold zneed; first | exact if_pos (by omega) | (rw [if_neg (by omega), if_pos (by omega)]; done) | (rw [if_neg (by omega), if_neg (by omega)]; omega)) k9)
        · refine s_iconst dX9_needed_60 ?_
          refine s_goto (tgt := 73) dX9_needed_61 (by decide) ?_
          exact s_ireturn dX9_needed_73 rfl (q_val (by unfold zneed; first | exact if_pos (by omega) | (rw [if_neg (by omega), if_pos (by omega)]; done) | (rw [if_neg (by omega), if_neg (by omega)]; omega)) k9)
      · refine s_iconst dX9_needed_35 ?_
        refine s_goto (tgt := 53) dX9_needed_36 (by decide) ?_
        refine s_istore_n dX9_needed_53 (by decide) rfl (L' := [_, _, _, _]) rfl ?_
        refine s_iload_n dX9_needed_54 rfl ?_
        refine s_ldc dX9_needed_55 kc_X9_240 ?_
        refine s_icmp_le (tgt := 64) dX9_needed_57 (by decide) (by first | exact hG3.2 _ _ | exact hG.2 _ _ | exact b01_in _ | assumption | exact ⟨by omega, by omega⟩) (by first | exact hG3.2 _ _ | exact hG.2 _ _ | exact b01_in _ | assumption | exact ⟨by omega, by omega⟩) (fun c7 => ?_) (fun c7 => ?_)
        · refine s_iload_n dX9_needed_64 rfl ?_
          refine s_if_ge (tgt := 72) dX9_needed_65 (by decide) (by first | exact hG3.2 _ _ | exact hG.2 _ _ | exact b01_in _ | assumption | exact ⟨by omega, by omega⟩) (fun c8 => ?_) (fun c8 => ?_)
          · refine s_iload_n dX9_needed_72 rfl ?_
            exact s_ireturn dX9_needed_73 rfl (q_val (by unfold zneed; first | exact if_pos (by omega) | (rw [if_neg (by omega), if_pos (by omega)]; done) | (rw [if_neg (by omega), if_neg (by omega)]; omega)) k9)
          · refine s_iconst dX9_needed_68 ?_
            refine s_goto (tgt := 73) dX9_needed_69 (by decide) ?_
            exact s_ireturn dX9_needed_73 rfl (q_val (by unfold zneed; first | exact if_pos (by omega) | (rw [if_neg (by omega), if_pos (by omega)]; done) | (rw [if_neg (by omega), if_neg (by omega)]; omega)) k9)
        · refine s_iconst dX9_needed_60 ?_
          refine s_goto (tgt := 73) dX9_needed_61 (by decide) ?_
          exact s_ireturn dX9_needed_73 rfl (q_val (by unfold zneed; first | exact if_pos (by omega) | (rw [if_neg (by omega), if_pos (by omega)]; done) | (rw [if_neg (by omega), if_neg (by omega)]; omega)) k9)
    · exact absurd c3 (by decide)
set_option maxRecDepth 100000 in
set_option maxHeartbeats 4000000 in
theorem c_X9_part {g : Int} (hd : 10 ≤ d) (M : MR_ h z) (hg : inI g) (k : 0 ≤ g → g < z 0 2 → MK_ Q h z 0 (zpart z g)) (k1 : ¬ (0 ≤ g ∧ g < z 0 2) → MK_ Q h z 1 0) : Cl_ yX9_part MX9_part d bc bs [(2, 196), (0, g)] nN h Q := by
  refine s_enter pn_X9 rfl (Nat.le_of_ble_eq_true rfl) (L := [(2, _), (0, _), (9, 0)]) rfl ?_
  have hG := M.1
  have I := mr_i M
  have hT := I.2.1
  have hP := I.2.2.1
  have hN := I.2.2.2.1
  have nn := M.2.1
  refine s_aload_n dX9_part_0 rfl ?_
  refine s_aload_n dX9_part_1 rfl ?_
  refine s_iload_n dX9_part_2 rfl ?_
  refine s_callV (d' := d - 1) (bc' := 0) (bs' := 0) (as := [_]) dX9_part_3 vf_X9_319 (dd_ (by omega) (by decide)) ⟨Nat.zero_le _, Nat.zero_le _⟩ rfl rfl (Nat.le_of_ble_eq_true rfl) kl_7 rfl io_196 ?_
  refine c_X9_isGift (by omega) M hg ?_
  refine s_if_eq (tgt := 13) dX9_part_6 (by decide) (by first | exact hG.2 _ _ | exact b01_in _ | assumption | exact ⟨by omega, by omega⟩) (fun c1 => ?_) (fun c1 => ?_)
  · have c1 := b01_0.mp c1
    refine s_iconst dX9_part_13 ?_
    refine s_putiG 0 dX9_part_14 fl_X9_98 kl_7 (by decide) rfl rfl io_196 (z := 0) rfl (by decide +kernel) hG (by first | exact hG.2 _ _ | exact b01_in _ | assumption | exact ⟨by omega, by omega⟩) (fun hG1 => ?_)
    obtain ⟨M, fm, th⟩ := mr_th M hG1
    refine s_aload_n dX9_part_17 rfl ?_
    refine s_geti dX9_part_18 fl_X9_98 kl_7 (by decide) rfl io_196 (z := 0) rfl ?_
    rw [th]
    refine s_if_le (tgt := 26) dX9_part_21 (by decide) (by first | exact hG1.2 _ _ | exact hG.2 _ _ | exact b01_in _ | assumption | exact ⟨by omega, by omega⟩) (fun c2 => ?_) (fun c2 => ?_)
    · exact absurd c2 (by decide)
    · refine s_iconst dX9_part_24 ?_
      exact s_ireturn dX9_part_25 rfl (k1 (by omega) _ M fm th)
  · have c1 := b01_n.mp c1
    refine s_iconst dX9_part_9 ?_
    refine s_goto (tgt := 14) dX9_part_10 (by decide) ?_
    refine s_putiG 0 dX9_part_14 fl_X9_98 kl_7 (by decide) rfl rfl io_196 (z := 0) rfl (by decide +kernel) hG (by first | exact hG.2 _ _ | exact b01_in _ | assumption | exact ⟨by omega, by omega⟩) (fun hG2 => ?_)
    obtain ⟨M, fm, th⟩ := mr_th M hG2
    refine s_aload_n dX9_part_17 rfl ?_
    refine s_geti dX9_part_18 fl_X9_98 kl_7 (by decide) rfl io_196 (z := 0) rfl ?_
    rw [th]
    refine s_if_le (tgt := 26) dX9_part_21 (by decide) (by first | exact hG2.2 _ _ | exact hG.2 _ _ | exact b01_in _ | assumption | exact ⟨by omega, by omega⟩) (fun c3 => ?_) (fun c3 => ?_)
    · refine s_aload_n dX9_part_26 rfl ?_
      refine s_callV (d' := d - 1) (bc' := 0) (bs' := 0) (as := []) dX9_part_27 vf_X9_405 (dd_ (by omega) (by decide)) ⟨Nat.zero_le _, Nat.zero_le _⟩ rfl rfl (Nat.le_of_ble_eq_true rfl) kl_7 rfl io_196 ?_
      refine c_X9_lays (by omega) M (fun hhG3 ghG3 fhG3 RhG3 => ?_)
      have hG3 := ghG3
      have M := sc_M M ghG3 fhG3
      have fm := fm.tr (sc_fm fhG3)
      have th := (sc_0 fhG3).trans th
      have R9 := RhG3
      have k9 := k (by omega) (by omega) _ M fm th
      have x0 := sumI_nonneg (f := zde z g) 5 0 (fun c a b => by rw [zde_lo (by omega)]; exact (zdu_bd I (by omega) (by omega)).1)
      have x1 := sumI_le (f := zde z g) (b := 9999) 5 0 (fun c a b => by rw [zde_lo (by omega)]; exact (zdu_bd I (by omega) (by omega)).2)
      have y0 := sumI_nonneg (f := zgt z g) 5 0 (fun c a b => (zgt_le I (by omega) (by omega) a (by omega)).1)
      have y1 := sumI_le (f := zgt z g) (b := 9999) 5 0 (fun c a b => (zgt_le I (by omega) (by omega) a (by omega)).2)
      refine s_aload_n dX9_part_30 rfl ?_
      refine s_iload_n dX9_part_31 rfl ?_
      refine s_iconst dX9_part_32 ?_
      refine s_aload_n dX9_part_33 rfl ?_
      refine s_getr dX9_part_34 fl_X9_67 kl_7 (by decide) rfl io_196 (z := 30) rfl (rf_7_30 hG3.1 io_196) (rk_7_30 io_196).1 ?_
      refine s_callV (d' := d - 1) (bc' := 0) (bs' := 0) (as := [_, _, _]) dX9_part_37 vf_X9_411 (dd_ (by omega) (by decide)) ⟨Nat.zero_le _, Nat.zero_le _⟩ rfl rfl (Nat.le_of_ble_eq_true rfl) kl_7 rfl io_196 ?_
      refine c_X9_inAll (rk_7_30 io_196) hG3 (by omega) (by omega) (by omega) (by omega) ?_
      rw [show sumI (fun c => hhG3 (196 + 18) (7 * g + c)) 0 (5 : Int).toNat = sumI (zde z g) 0 5 from sumI_congr _ _ (fun i i0 i1 => (R9.1 g i (by omega) (by omega) (by omega) (by omega)).1)]
      refine s_istore_n dX9_part_40 (by decide) rfl (L' := [_, _, _]) rfl ?_
      refine s_iload_n dX9_part_41 rfl ?_
      refine s_if_ne (tgt := 49) dX9_part_42 (by decide) (by first | exact hG3.2 _ _ | exact hG.2 _ _ | exact b01_in _ | assumption | exact ⟨by omega, by omega⟩) (fun c4 => ?_) (fun c4 => ?_)
      · refine s_sipush dX9_part_49 (by decide) ?_
        refine s_aload_n dX9_part_52 rfl ?_
        refine s_iload_n dX9_part_53 rfl ?_
        refine s_iconst dX9_part_54 ?_
        refine s_aload_n dX9_part_55 rfl ?_
        refine s_getr dX9_part_56 fl_X9_70 kl_7 (by decide) rfl io_196 (z := 31) rfl (rf_7_31 hG3.1 io_196) (rk_7_31 io_196).1 ?_
        refine s_callV (d' := d - 1) (bc' := 0) (bs' := 0) (as := [_, _, _]) dX9_part_59 vf_X9_411 (dd_ (by omega) (by decide)) ⟨Nat.zero_le _, Nat.zero_le _⟩ rfl rfl (Nat.le_of_ble_eq_true rfl) kl_7 rfl io_196 ?_
        refine c_X9_inAll (rk_7_31 io_196) hG3 (by omega) (by omega) (by omega) (by omega) ?_
        rw [show sumI (fun c => hhG3 (196 + 19) (7 * g + c)) 0 (5 : Int).toNat = sumI (zgt z g) 0 5 from sumI_congr _ _ (fun i i0 i1 => (R9.1 g i (by omega) (by omega) (by omega) (by omega)).2)]
        refine s_imul dX9_part_62 ?_
        refine s_iload_n dX9_part_63 rfl ?_
        refine s_idiv dX9_part_64 (by first | exact hG3.2 _ _ | exact hG.2 _ _ | exact b01_in _ | assumption | exact ⟨by omega, by omega⟩) (by first | exact hG3.2 _ _ | exact hG.2 _ _ | exact b01_in _ | assumption | exact ⟨by omega, by omega⟩) (by omega) (by omega) ?_
        first | exact s_ireturn dX9_part_65 rfl (q_val (by unfold zpart; exact if_pos (by omega)) k9) | exact s_ireturn dX9_part_65 rfl (q_val (by unfold zpart; rw [if_neg (by omega), Int.mul_comm]) k9)
      · refine s_iconst dX9_part_45 ?_
        refine s_goto (tgt := 65) dX9_part_46 (by decide) ?_
        first | exact s_ireturn dX9_part_65 rfl (q_val (by unfold zpart; exact if_pos (by omega)) k9) | exact s_ireturn dX9_part_65 rfl (q_val (by unfold zpart; rw [if_neg (by omega), Int.mul_comm]) k9)
    · exact absurd c3 (by decide)
set_option maxRecDepth 100000 in
set_option maxHeartbeats 4000000 in
theorem c_X9_left {t : Int} (hd : 10 ≤ d) (M : MR_ h z) (ht : inI t) (k : 0 ≤ t → t < z 0 0 → MK_ Q h z 0 (zfl z (z 0 2).toNat t)) (k1 : ¬ (0 ≤ t ∧ t < z 0 0) → MK_ Q h z 1 0) : Cl_ yX9_left MX9_left d bc bs [(2, 196), (0, t)] nN h Q := by
  refine s_enter pn_X9 rfl (Nat.le_of_ble_eq_true rfl) (L := [(2, _), (0, _)]) rfl ?_
  have hG := M.1
  have I := mr_i M
  have hT := I.2.1
  have hP := I.2.2.1
  have hN := I.2.2.2.1
  have nn := M.2.1
  refine s_aload_n dX9_left_0 rfl ?_
  refine s_aload_n dX9_left_1 rfl ?_
  refine s_iload_n dX9_left_2 rfl ?_
  refine s_callV (d' := d - 1) (bc' := 0) (bs' := 0) (as := [_]) dX9_left_3 vf_X9_294 (dd_ (by omega) (by decide)) ⟨Nat.zero_le _, Nat.zero_le _⟩ rfl rfl (Nat.le_of_ble_eq_true rfl) kl_7 rfl io_196 ?_
  refine c_X9_isThing (by omega) M ht ?_
  refine s_if_eq (tgt := 13) dX9_left_6 (by decide) (by first | exact hG.2 _ _ | exact b01_in _ | assumption | exact ⟨by omega, by omega⟩) (fun c1 => ?_) (fun c1 => ?_)
  · have c1 := b01_0.mp c1
    refine s_iconst dX9_left_13 ?_
    refine s_putiG 0 dX9_left_14 fl_X9_98 kl_7 (by decide) rfl rfl io_196 (z := 0) rfl (by decide +kernel) hG (by first | exact hG.2 _ _ | exact b01_in _ | assumption | exact ⟨by omega, by omega⟩) (fun hG1 => ?_)
    obtain ⟨M, fm, th⟩ := mr_th M hG1
    refine s_aload_n dX9_left_17 rfl ?_
    refine s_geti dX9_left_18 fl_X9_98 kl_7 (by decide) rfl io_196 (z := 0) rfl ?_
    rw [th]
    refine s_if_le (tgt := 28) dX9_left_21 (by decide) (by first | exact hG1.2 _ _ | exact hG.2 _ _ | exact b01_in _ | assumption | exact ⟨by omega, by omega⟩) (fun c2 => ?_) (fun c2 => ?_)
    · exact absurd c2 (by decide)
    · refine s_iconst dX9_left_24 ?_
      refine s_goto (tgt := 37) dX9_left_25 (by decide) ?_
      exact s_ireturn dX9_left_37 rfl (k1 (by omega) _ M fm th)
  · have c1 := b01_n.mp c1
    refine s_iconst dX9_left_9 ?_
    refine s_goto (tgt := 14) dX9_left_10 (by decide) ?_
    refine s_putiG 0 dX9_left_14 fl_X9_98 kl_7 (by decide) rfl rfl io_196 (z := 0) rfl (by decide +kernel) hG (by first | exact hG.2 _ _ | exact b01_in _ | assumption | exact ⟨by omega, by omega⟩) (fun hG2 => ?_)
    obtain ⟨M, fm, th⟩ := mr_th M hG2
    refine s_aload_n dX9_left_17 rfl ?_
    refine s_geti dX9_left_18 fl_X9_98 kl_7 (by decide) rfl io_196 (z := 0) rfl ?_
    rw [th]
    refine s_if_le (tgt := 28) dX9_left_21 (by decide) (by first | exact hG2.2 _ _ | exact hG.2 _ _ | exact b01_in _ | assumption | exact ⟨by omega, by omega⟩) (fun c3 => ?_) (fun c3 => ?_)
    · refine s_aload_n dX9_left_28 rfl ?_
      refine s_iload_n dX9_left_29 rfl ?_
      refine s_aload_n dX9_left_30 rfl ?_
      refine s_geti dX9_left_31 fl_X9_275 kl_7 (by decide) rfl io_196 (z := 7) rfl ?_
      refine s_callV (d' := d - 1) (bc' := 0) (bs' := 0) (as := [_, _]) dX9_left_34 vf_X9_360 (dd_ (by omega) (by decide)) ⟨Nat.zero_le _, Nat.zero_le _⟩ rfl rfl (Nat.le_of_ble_eq_true rfl) kl_7 rfl io_196 ?_
      rw [M.2.1.2.2]
      refine c_X9_leftOf (by omega) M (by omega) (by omega) (by omega) (Int.le_refl _) (fun hhG3 ghG3 fhG3 => ?_)
      have hG3 := ghG3
      have M := sc_M M ghG3 (sc_16 fhG3)
      have fm := fm.tr (sc_fm (sc_16 fhG3))
      have th := (sc_0 (sc_16 fhG3)).trans th
      exact s_ireturn dX9_left_37 rfl (k (by omega) (by omega) _ M fm th)
    · exact absurd c3 (by decide)
end X9J
