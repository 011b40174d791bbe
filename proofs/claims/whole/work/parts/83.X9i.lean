/-! the reference: lays -/
section X9I
variable {d bc bs : Nat} {Q : PQ} {h h0 z : PH}
set_option maxRecDepth 100000 in
set_option maxHeartbeats 4000000 in
theorem lp_X9_lays  (hd : 4 ≤ d) (M0 : MR_ h0 z) (dD : (∀ i j : Int, 0 ≤ i → i < z 0 2 → 0 ≤ j → j < 7 → h0 (196 + 18) (7 * i + j) = zdu z i j)) (sD : (∀ j : Int, 0 ≤ j → j < 7 → h0 (196 + 20) j = cs_ (zdu z) (z 0 2) j)) (K : ∀ h : PH, G h → (∀ x y : Int, ¬ x = 196 + 22 → ¬ x = 196 + 23 → ¬ x = 196 + 24 → ¬ x = 196 + 19 → ¬ (x = 196 ∧ y = 33) → h x y = h0 x y) → h 196 33 = ct_ (zdu z) (z 0 2) (zav z) 5 → (∀ g j : Int, 0 ≤ g → g < z 0 2 → 0 ≤ j → j < 7 → h (196 + 19) (7 * g + j) = if j < 5 then gt_ (zdu z) (z 0 2) (zav z) g j else 0) → S_ MX9_lays d bc bs Q 52 [(2, 196), (0, lf_ (zdu z) (z 0 2) (zav z) 5), (0, 5)] [] nN h) : ∀ (m : Nat) (c l : Int) (h : PH), (0 ≤ c) → (c + m = 5) → (l = lf_ (zdu z) (z 0 2) (zav z) c.toNat) → (G h) → (∀ x y : Int, ¬ x = 196 + 22 → ¬ x = 196 + 23 → ¬ x = 196 + 24 → ¬ x = 196 + 19 → ¬ (x = 196 ∧ y = 33) → h x y = h0 x y) → (h 196 33 = ct_ (zdu z) (z 0 2) (zav z) c.toNat) → (∀ g j : Int, 0 ≤ g → g < z 0 2 → 0 ≤ j → j < 7 → h (196 + 19) (7 * g + j) = if j < c then gt_ (zdu z) (z 0 2) (zav z) g j else 0) → S_ MX9_lays d bc bs Q 34 [(2, 196), (0, l), (0, c)] [] nN h := by
  intro m
  induction m with
  | zero =>
    intro c l h c0 cm hl gG fr ec H
    subst hl
    have hG := gG
    have M := sc_M M0 gG (fun x y a _ => fr x y (by omega) (by omega) (by omega) (by omega) (by omega))
    have I := mr_i M
    have hT := I.2.1
    have hP := I.2.2.1
    have hN := I.2.2.2.1
    have nn := M.2.1
    have av := zav_bd I
    refine s_iload_n dX9_lays_34 rfl ?_
    refine s_iconst dX9_lays_35 ?_
    refine s_icmp_ge (tgt := 52) dX9_lays_36 (by decide) (by first | exact hG.2 _ _ | exact b01_in _ | assumption | exact ⟨by omega, by omega⟩) (by first | exact hG.2 _ _ | exact b01_in _ | assumption | exact ⟨by omega, by omega⟩) (fun c1 => ?_) (fun c1 => ?_)
    · have e5 : c = 5 := by omega
      subst e5
      exact K h gG fr ec H
    · exact absurd c1 (by omega)
  | succ m ih =>
    intro c l h c0 cm hl gG fr ec H
    subst hl
    have hG := gG
    have M := sc_M M0 gG (fun x y a _ => fr x y (by omega) (by omega) (by omega) (by omega) (by omega))
    have I := mr_i M
    have hT := I.2.1
    have hP := I.2.2.1
    have hN := I.2.2.2.1
    have nn := M.2.1
    have av := zav_bd I
    refine s_iload_n dX9_lays_34 rfl ?_
    refine s_iconst dX9_lays_35 ?_
    refine s_icmp_ge (tgt := 52) dX9_lays_36 (by decide) (by first | exact hG.2 _ _ | exact b01_in _ | assumption | exact ⟨by omega, by omega⟩) (by first | exact hG.2 _ _ | exact b01_in _ | assumption | exact ⟨by omega, by omega⟩) (fun c1 => ?_) (fun c1 => ?_)
    · exact absurd c1 (by omega)
    · refine s_aload_n dX9_lays_39 rfl ?_
      refine s_iload_n dX9_lays_40 rfl ?_
      refine s_iload_n dX9_lays_41 rfl ?_
      refine s_callV (d' := d - 1) (bc' := 0) (bs' := 0) (as := [_, _]) dX9_lays_42 vf_X9_379 (dd_ (by omega) (by decide)) ⟨Nat.zero_le _, Nat.zero_le _⟩ rfl rfl (Nat.le_of_ble_eq_true rfl) kl_7 rfl io_196 ?_
      have lb := lf_bd (D := zdu z) (n := z 0 2) av.1 c.toNat (fun g k a b _ _ => (zdu_bd I a b).1)
      refine c_X9_pays (D := fun g => zdu z g c) (by omega) M c0 (by omega) lb.1 (by omega) (fun g g0 g1 => ⟨by rw [fr _ _ (by omega) (by omega) (by omega) (by omega) (by omega)]; exact dD g c g0 g1 c0 (by omega), (zdu_bd I g0 g1).1, by have := zdu_bd I (c := c) g0 g1; omega⟩) (by rw [fr _ _ (by omega) (by omega) (by omega) (by omega) (by omega)]; exact sD c c0 (by omega)) (fun hhG1 ghG1 fP gP cP => ?_)
      have hG1 := ghG1
      refine s_istore_n dX9_lays_45 (by decide) rfl (L' := [_, _, _]) rfl ?_
      refine s_iinc dX9_lays_46 rfl (by decide) rfl (L' := [_, _, _]) rfl ?_
      refine s_goto (tgt := 34) dX9_lays_49 (by decide) ?_
      refine ih (c + 1) _ _ (by omega) (by omega) (lf_up c0).symm hG1 (fun x y a b e f w => by rw [fP x y a b e (by omega) w]; exact fr x y a b e f w) ?_ (fun g j g0 g1 j0 j7 => ?_)
      · rw [ct_up c0, cP, ec]
        rfl
      · by_cases q : j = c
        · rw [q, if_pos (by omega), gP g g0 g1]
          rfl
        · rw [fP _ _ (by omega) (by omega) (by omega) (by omega) (by omega), H g j g0 g1 j0 j7]
          by_cases q2 : j < c
          · rw [if_pos q2, if_pos (by omega)]
          · rw [if_neg q2, if_neg (by omega)]
theorem d5e5 {z : PH} : ∀ g : Int, zd5 z g 5 = (sumI (gt_ (zdu z) (z 0 2) (zav z) g) 1 4 * z 1 59 * zlate z).tdiv 1200 := fun g => by
  unfold zd5
  rw [d5_5]
  rfl
theorem lf5 {z : PH} : lf_ (zdu z) (z 0 2) (zav z) 5 = lf_ (zd5 z) (z 0 2) (zav z) 5 := d5_lf _ _ _ _ _ (Nat.le_refl _)
theorem zrs_6 {z : PH} : max 0 (lf_ (zdu z) (z 0 2) (zav z) 5 - sumI (fun g => zd5 z g 5) 0 (z 0 2).toNat) = zrs z := by
  rw [lf5]
  rfl
theorem zct_6 {z : PH} : (if ¬ sumI (fun g => zd5 z g 5) 0 (z 0 2).toNat ≤ lf_ (zdu z) (z 0 2) (zav z) 5 ∧ ct_ (zdu z) (z 0 2) (zav z) 5 = -1 then 5 else ct_ (zdu z) (z 0 2) (zav z) 5) = zct z := by
  rw [lf5, show ct_ (zdu z) (z 0 2) (zav z) 5 = ct_ (zd5 z) (z 0 2) (zav z) 5 from d5_ct _ _ _ _ _ (Nat.le_refl _)]
  rfl
theorem d5elo {z : PH} {g c : Int} (c4 : c ≤ 4) : zd5 z g c = zdu z g c := by
  unfold zd5
  exact d5_lo c4
set_option maxRecDepth 100000 in
set_option maxHeartbeats 4000000 in
theorem c_X9_lays  (hd : 7 ≤ d) (M : MR_ h z) (k : ∀ h1 : PH, G h1 → SC_ h h1 → RM_ h1 z → Q.1 none nN h1) : Cl_ yX9_lays MX9_lays d bc bs [(2, 196)] nN h Q := by
  refine s_enter pn_X9 rfl (Nat.le_of_ble_eq_true rfl) (L := [(2, _), (9, 0), (9, 0)]) rfl ?_
  have hG := M.1
  have I := mr_i M
  have hT := I.2.1
  have hP := I.2.2.1
  have hN := I.2.2.2.1
  have nn := M.2.1
  have av := zav_bd I
  refine s_aload_n dX9_lays_0 rfl ?_
  refine s_callV (d' := d - 1) (bc' := 0) (bs' := 0) (as := []) dX9_lays_1 vf_X9_373 (dd_ (by omega) (by decide)) ⟨Nat.zero_le _, Nat.zero_le _⟩ rfl rfl (Nat.le_of_ble_eq_true rfl) kl_7 rfl io_196 ?_
  refine c_X9_laysDue (by omega) M (fun hD gD fD dD zD sD => ?_)
  have hG1 := gD
  have hG := gD
  refine s_aload_n dX9_lays_4 rfl ?_
  refine s_iconst dX9_lays_5 ?_
  refine s_putiG 33 dX9_lays_6 fl_X9_365 kl_7 (by decide) rfl rfl io_196 (z := 33) rfl (by decide +kernel) hG1 (by first | exact hG1.2 _ _ | exact hG.2 _ _ | exact b01_in _ | assumption | exact ⟨by omega, by omega⟩) (fun hG2 => ?_)
  refine s_aload_n dX9_lays_9 rfl ?_
  refine s_callV (d' := d - 1) (bc' := 0) (bs' := 0) (as := []) dX9_lays_10 vf_X9_376 (dd_ (by omega) (by decide)) ⟨Nat.zero_le _, Nat.zero_le _⟩ rfl rfl (Nat.le_of_ble_eq_true rfl) kl_7 rfl io_196 ?_
  have MD2 := sc_M M hG2 (h1 := hs_ hD 196 33 (-1)) (fun x y a b => by rw [hs_ne _ (by omega)]; exact fD x y (by omega) (by omega) (by omega) (by omega))
  refine c_X9_estateNow (by omega) MD2 ?_
  have e57 := mr_f MD2 57 (by omega) (by omega)
  rw [pm_h (by omega)] at e57
  have zeb := zes_bd I
  have b57 := I.1.2.2.2.1
  have ez : zav z = max 0 (zes z - z 1 57) := rfl
  refine s_aload_n dX9_lays_13 rfl ?_
  refine s_getr dX9_lays_14 fl_X9_7 kl_7 (by decide) rfl io_196 (z := 1) rfl (rf_7_1 hG2.1 io_196) (rk_7_1 io_196).1 ?_
  refine s_bipush dX9_lays_17 (by decide) ?_
  refine s_iaload dX9_lays_19 (rk_7_1 io_196) (by omega) (by omega) ?_
  rw [e57]
  refine s_isub dX9_lays_20 ?_
  refine s_istore_n dX9_lays_21 (by decide) rfl (L' := [_, _, _]) rfl ?_
  refine s_iload_n dX9_lays_22 rfl ?_
  refine s_if_ge (tgt := 30) dX9_lays_23 (by decide) (by first | exact hG2.2 _ _ | exact hG.2 _ _ | exact b01_in _ | assumption | exact ⟨by omega, by omega⟩) (fun c1 => ?_) (fun c1 => ?_)
  · refine s_iload_n dX9_lays_30 rfl ?_
    refine s_istore_n dX9_lays_31 (by decide) rfl (L' := [_, _, _]) rfl ?_
    refine s_iconst dX9_lays_32 ?_
    refine s_istore_n dX9_lays_33 (by decide) rfl (L' := [_, _, _]) rfl ?_
    refine lp_X9_lays (h0 := (hs_ hD 196 33 (-1))) (by omega) MD2 (fun i j i0 i1 j0 j7 => ?_) (fun j j0 j7 => ?_) (fun hL gL fL cL eL => ?_) 5 0 _ _ (Int.le_refl _) (by omega) (by show _ = zav z; omega) hG2 (fun _ _ _ _ _ _ _ => rfl) (by rw [hs_eq]; rfl) (fun g j g0 g1 j0 j7 => ?_)
    · rw [hs_ne _ (by omega)]; exact dD i j i0 i1 j0 j7
    · rw [hs_ne _ (by omega)]; exact sD j j0 j7
    rotate_left
    · rw [hs_ne _ (by omega), zD _ (by omega) (by omega), if_neg (by omega)]
    have hG := gL
    have ML := sc_M MD2 gL (fun x y a _ => fL x y (by omega) (by omega) (by omega) (by omega) (by omega))
    refine s_aload_n dX9_lays_52 rfl ?_
    refine s_callV (d' := d - 1) (bc' := 0) (bs' := 0) (as := []) dX9_lays_53 vf_X9_382 (dd_ (by omega) (by decide)) ⟨Nat.zero_le _, Nat.zero_le _⟩ rfl rfl (Nat.le_of_ble_eq_true rfl) kl_7 rfl io_196 ?_
    refine c_X9_laysInterest (X := fun g c => gt_ (zdu z) (z 0 2) (zav z) g c) ML (fun g c g0 g1 c1 c4 => ?_) (fun hI gI fI dI sI => ?_)
    · have b1 := gt_bd (D := zdu z) (n := z 0 2) (c := c) av.1 (by omega) (fun g k a b _ _ => (zdu_bd I a b).1) g g0 g1
      have b2 := zdu_bd I (c := c) g0 g1
      exact ⟨by rw [eL g c g0 g1 (by omega) (by omega), if_pos (by omega)], b1.1, by omega⟩
    have hG1 := gI
    have hG := gI
    have MI := sc_M ML gI (fun x y a _ => fI x y (by omega) (by omega))
    refine s_aload_n dX9_lays_56 rfl ?_
    refine s_iconst dX9_lays_57 ?_
    refine s_iload_n dX9_lays_58 rfl ?_
    refine s_callV (d' := d - 1) (bc' := 0) (bs' := 0) (as := [_, _]) dX9_lays_59 vf_X9_379 (dd_ (by omega) (by decide)) ⟨Nat.zero_le _, Nat.zero_le _⟩ rfl rfl (Nat.le_of_ble_eq_true rfl) kl_7 rfl io_196 ?_
    have lb := lf_bd (D := zdu z) (n := z 0 2) av.1 5 (fun g k a b _ _ => (zdu_bd I a b).1)
    have d5b := fun (g : Int) (g0 : 0 ≤ g) (g1 : g < z 0 2) => zd5_bd I (c := 5) g0 g1
    refine c_X9_pays (D := fun g => zd5 z g 5) (by omega) MI (by omega) (by omega) lb.1 (by omega) (fun g g0 g1 => ⟨by rw [dI g g0 g1]; exact (d5e5 g).symm, d5b g g0 g1⟩) (by rw [sI]; exact sumI_congr _ _ (fun i i0 i1 => (d5e5 i).symm)) (fun hP gP fP eP cP => ?_)
    have hG2 := gP
    have hG := gP
    have MP := sc_M MI gP (fy_sc fP)
    have zr := zrs_bd I
    rw [zrs_6]
    refine s_istore_n dX9_lays_62 (by decide) rfl (L' := [_, _, _]) rfl ?_
    refine s_aload_n dX9_lays_63 rfl ?_
    refine s_iload_n dX9_lays_64 rfl ?_
    refine s_putiG 34 dX9_lays_65 fl_X9_385 kl_7 (by decide) rfl rfl io_196 (z := 34) rfl (by decide +kernel) hG2 (by first | exact hG2.2 _ _ | exact hG.2 _ _ | exact b01_in _ | assumption | exact ⟨by omega, by omega⟩) (fun hG3 => ?_)
    refine s_aload_n dX9_lays_68 rfl ?_
    refine s_callV (d' := d - 1) (bc' := 0) (bs' := 0) (as := []) dX9_lays_69 vf_X9_388 (dd_ (by omega) (by decide)) ⟨Nat.zero_le _, Nat.zero_le _⟩ rfl rfl (Nat.le_of_ble_eq_true rfl) kl_7 rfl io_196 ?_
    have zr := zrs_bd I
    have MR2 := sc_M MP hG3 (fun x y a b => hs_ne _ (by omega))
    have FF : ∀ x y : Int, ¬ x = 196 + 22 → ¬ x = 196 + 23 → ¬ x = 196 + 24 → ¬ x = 196 + 19 → ¬ (x = 196 ∧ (y = 33 ∨ y = 34)) → ¬ (x = 196 + 18 ∧ y % 7 = 5) → ¬ (x = 196 + 20 ∧ y = 5) → hs_ hP 196 34 (zrs z) x y = (hs_ hD 196 33 (-1)) x y := fun x y a b e f w u t => by
      rw [hs_ne _ (by omega), fP x y a b e (by omega) (by omega), fI x y u t]
      exact fL x y a b e f (by omega)
    have du : ∀ g j : Int, 0 ≤ g → g < z 0 2 → 0 ≤ j → j < 7 → hs_ hP 196 34 (zrs z) (196 + 18) (7 * g + j) = if j = 5 then zd5 z g 5 else zdu z g j := fun g j g0 g1 j0 j7 => by
      rw [hs_ne _ (by omega), fP _ _ (by omega) (by omega) (by omega) (by omega) (by omega)]
      by_cases q : j = 5
      · rw [q, if_pos rfl, dI g g0 g1, d5e5]
      · rw [if_neg q, fI _ _ (by omega) (by omega), fL _ _ (by omega) (by omega) (by omega) (by omega) (by omega), hs_ne _ (by omega)]
        exact dD g j g0 g1 j0 j7
    have ge : ∀ g j : Int, 0 ≤ g → g < z 0 2 → 0 ≤ j → j < 7 → hs_ hP 196 34 (zrs z) (196 + 19) (7 * g + j) = if j = 6 then 0 else gt_ (zd5 z) (z 0 2) (zav z) g j := fun g j g0 g1 j0 j7 => by
      rw [hs_ne _ (by omega)]
      by_cases q : j = 5
      · have e9 := eP g g0 g1
        rw [q, if_neg (by omega), e9, show lf_ (zdu z) (z 0 2) (zav z) 5 = lf_ (zd5 z) (z 0 2) (zav z) 5 from d5_lf _ _ _ _ _ (Nat.le_refl _)]
        rfl
      · rw [fP _ _ (by omega) (by omega) (by omega) (by omega) (by omega), fI _ _ (by omega) (by omega), eL g j g0 g1 j0 j7]
        by_cases q2 : j < 5
        · rw [if_pos q2, if_neg (by omega)]
          exact d5_gt _ _ _ _ _ j0 (by omega) g g0 g1
        · rw [if_neg q2, if_pos (by omega)]
    refine c_X9_laysRest (r := zrs z) (by omega) MR2 (by rw [hs_eq]) zr.1 (by omega) (fun g g0 g1 => ⟨by rw [du g 6 g0 g1 (by omega) (by omega), if_neg (by omega), zdu_6 I g0 g1 (by omega)], by rw [ge g 6 g0 g1 (by omega) (by omega), if_pos rfl]⟩) (fun hR gR fR pR iR bR tR => ?_)
    have hG4 := gR
    refine s_return dX9_lays_72 rfl (k hR gR (fun x y a b => ?_) ⟨fun g c g0 g1 c0 c7 => ?_, ?_, ?_, ?_, ?_, ?_⟩)
    · rw [fR x y (by omega) (by omega) (by omega) (by omega) (by omega) (by omega), FF x y (by omega) (by omega) (by omega) (by omega) (by omega) (by omega) (by omega), hs_ne _ (by omega)]
      exact fD x y (by omega) (by omega) (by omega) (by omega)
    · by_cases q : c = 6
      · subst q
        have := pR g g0 g1
        rw [this.1, this.2]
        unfold zde zgt zp6
        rw [if_pos rfl, if_pos rfl]
        exact ⟨rfl, rfl⟩
      · rw [fR _ _ (by omega) (by omega) (by omega) (by omega) (by omega) (by omega), fR _ _ (by omega) (by omega) (by omega) (by omega) (by omega) (by omega), du g c g0 g1 c0 c7, ge g c g0 g1 c0 c7, if_neg q]
        unfold zde zgt
        rw [if_neg q, if_neg q]
        refine ⟨?_, rfl⟩
        by_cases q2 : c = 5
        · rw [if_pos q2, q2]
        · by_cases q3 : c ≤ 4
          · rw [if_neg q2, d5elo q3]
          · omega
    · rw [fR _ _ (by omega) (by omega) (by omega) (by omega) (by omega) (by omega), hs_ne _ (by omega), cP, fI _ _ (by omega) (by omega), cL]
      exact zct_6
    · rw [fR _ _ (by omega) (by omega) (by omega) (by omega) (by omega) (by omega), hs_eq]
    · rw [iR]; rfl
    · rw [bR]; rfl
    · intro p p0 p1
      exact tR p p0 p1
  · refine s_iconst dX9_lays_26 ?_
    refine s_goto (tgt := 31) dX9_lays_27 (by decide) ?_
    refine s_istore_n dX9_lays_31 (by decide) rfl (L' := [_, _, _]) rfl ?_
    refine s_iconst dX9_lays_32 ?_
    refine s_istore_n dX9_lays_33 (by decide) rfl (L' := [_, _, _]) rfl ?_
    refine lp_X9_lays (h0 := (hs_ hD 196 33 (-1))) (by omega) MD2 (fun i j i0 i1 j0 j7 => ?_) (fun j j0 j7 => ?_) (fun hL gL fL cL eL => ?_) 5 0 _ _ (Int.le_refl _) (by omega) (by show _ = zav z; omega) hG2 (fun _ _ _ _ _ _ _ => rfl) (by rw [hs_eq]; rfl) (fun g j g0 g1 j0 j7 => ?_)
    · rw [hs_ne _ (by omega)]; exact dD i j i0 i1 j0 j7
    · rw [hs_ne _ (by omega)]; exact sD j j0 j7
    rotate_left
    · rw [hs_ne _ (by omega), zD _ (by omega) (by omega), if_neg (by omega)]
    have hG := gL
    have ML := sc_M MD2 gL (fun x y a _ => fL x y (by omega) (by omega) (by omega) (by omega) (by omega))
    refine s_aload_n dX9_lays_52 rfl ?_
    refine s_callV (d' := d - 1) (bc' := 0) (bs' := 0) (as := []) dX9_lays_53 vf_X9_382 (dd_ (by omega) (by decide)) ⟨Nat.zero_le _, Nat.zero_le _⟩ rfl rfl (Nat.le_of_ble_eq_true rfl) kl_7 rfl io_196 ?_
    refine c_X9_laysInterest (X := fun g c => gt_ (zdu z) (z 0 2) (zav z) g c) ML (fun g c g0 g1 c1 c4 => ?_) (fun hI gI fI dI sI => ?_)
    · have b1 := gt_bd (D := zdu z) (n := z 0 2) (c := c) av.1 (by omega) (fun g k a b _ _ => (zdu_bd I a b).1) g g0 g1
      have b2 := zdu_bd I (c := c) g0 g1
      exact ⟨by rw [eL g c g0 g1 (by omega) (by omega), if_pos (by omega)], b1.1, by omega⟩
    have hG1 := gI
    have hG := gI
    have MI := sc_M ML gI (fun x y a _ => fI x y (by omega) (by omega))
    refine s_aload_n dX9_lays_56 rfl ?_
    refine s_iconst dX9_lays_57 ?_
    refine s_iload_n dX9_lays_58 rfl ?_
    refine s_callV (d' := d - 1) (bc' := 0) (bs' := 0) (as := [_, _]) dX9_lays_59 vf_X9_379 (dd_ (by omega) (by decide)) ⟨Nat.zero_le _, Nat.zero_le _⟩ rfl rfl (Nat.le_of_ble_eq_true rfl) kl_7 rfl io_196 ?_
    have lb := lf_bd (D := zdu z) (n := z 0 2) av.1 5 (fun g k a b _ _ => (zdu_bd I a b).1)
    have d5b := fun (g : Int) (g0 : 0 ≤ g) (g1 : g < z 0 2) => zd5_bd I (c := 5) g0 g1
    refine c_X9_pays (D := fun g => zd5 z g 5) (by omega) MI (by omega) (by omega) lb.1 (by omega) (fun g g0 g1 => ⟨by rw [dI g g0 g1]; exact (d5e5 g).symm, d5b g g0 g1⟩) (by rw [sI]; exact sumI_congr _ _ (fun i i0 i1 => (d5e5 i).symm)) (fun hP gP fP eP cP => ?_)
    have hG2 := gP
    have hG := gP
    have MP := sc_M MI gP (fy_sc fP)
    have zr := zrs_bd I
    rw [zrs_6]
    refine s_istore_n dX9_lays_62 (by decide) rfl (L' := [_, _, _]) rfl ?_
    refine s_aload_n dX9_lays_63 rfl ?_
    refine s_iload_n dX9_lays_64 rfl ?_
    refine s_putiG 34 dX9_lays_65 fl_X9_385 kl_7 (by decide) rfl rfl io_196 (z := 34) rfl (by decide +kernel) hG2 (by first | exact hG2.2 _ _ | exact hG.2 _ _ | exact b01_in _ | assumption | exact ⟨by omega, by omega⟩) (fun hG3 => ?_)
    refine s_aload_n dX9_lays_68 rfl ?_
    refine s_callV (d' := d - 1) (bc' := 0) (bs' := 0) (as := []) dX9_lays_69 vf_X9_388 (dd_ (by omega) (by decide)) ⟨Nat.zero_le _, Nat.zero_le _⟩ rfl rfl (Nat.le_of_ble_eq_true rfl) kl_7 rfl io_196 ?_
    have zr := zrs_bd I
    have MR2 := sc_M MP hG3 (fun x y a b => hs_ne _ (by omega))
    have FF : ∀ x y : Int, ¬ x = 196 + 22 → ¬ x = 196 + 23 → ¬ x = 196 + 24 → ¬ x = 196 + 19 → ¬ (x = 196 ∧ (y = 33 ∨ y = 34)) → ¬ (x = 196 + 18 ∧ y % 7 = 5) → ¬ (x = 196 + 20 ∧ y = 5) → hs_ hP 196 34 (zrs z) x y = (hs_ hD 196 33 (-1)) x y := fun x y a b e f w u t => by
      rw [hs_ne _ (by omega), fP x y a b e (by omega) (by omega), fI x y u t]
      exact fL x y a b e f (by omega)
    have du : ∀ g j : Int, 0 ≤ g → g < z 0 2 → 0 ≤ j → j < 7 → hs_ hP 196 34 (zrs z) (196 + 18) (7 * g + j) = if j = 5 then zd5 z g 5 else zdu z g j := fun g j g0 g1 j0 j7 => by
      rw [hs_ne _ (by omega), fP _ _ (by omega) (by omega) (by omega) (by omega) (by omega)]
      by_cases q : j = 5
      · rw [q, if_pos rfl, dI g g0 g1, d5e5]
      · rw [if_neg q, fI _ _ (by omega) (by omega), fL _ _ (by omega) (by omega) (by omega) (by omega) (by omega), hs_ne _ (by omega)]
        exact dD g j g0 g1 j0 j7
    have ge : ∀ g j : Int, 0 ≤ g → g < z 0 2 → 0 ≤ j → j < 7 → hs_ hP 196 34 (zrs z) (196 + 19) (7 * g + j) = if j = 6 then 0 else gt_ (zd5 z) (z 0 2) (zav z) g j := fun g j g0 g1 j0 j7 => by
      rw [hs_ne _ (by omega)]
      by_cases q : j = 5
      · have e9 := eP g g0 g1
        rw [q, if_neg (by omega), e9, show lf_ (zdu z) (z 0 2) (zav z) 5 = lf_ (zd5 z) (z 0 2) (zav z) 5 from d5_lf _ _ _ _ _ (Nat.le_refl _)]
        rfl
      · rw [fP _ _ (by omega) (by omega) (by omega) (by omega) (by omega), fI _ _ (by omega) (by omega), eL g j g0 g1 j0 j7]
        by_cases q2 : j < 5
        · rw [if_pos q2, if_neg (by omega)]
          exact d5_gt _ _ _ _ _ j0 (by omega) g g0 g1
        · rw [if_neg q2, if_pos (by omega)]
    refine c_X9_laysRest (r := zrs z) (by omega) MR2 (by rw [hs_eq]) zr.1 (by omega) (fun g g0 g1 => ⟨by rw [du g 6 g0 g1 (by omega) (by omega), if_neg (by omega), zdu_6 I g0 g1 (by omega)], by rw [ge g 6 g0 g1 (by omega) (by omega), if_pos rfl]⟩) (fun hR gR fR pR iR bR tR => ?_)
    have hG4 := gR
    refine s_return dX9_lays_72 rfl (k hR gR (fun x y a b => ?_) ⟨fun g c g0 g1 c0 c7 => ?_, ?_, ?_, ?_, ?_, ?_⟩)
    · rw [fR x y (by omega) (by omega) (by omega) (by omega) (by omega) (by omega), FF x y (by omega) (by omega) (by omega) (by omega) (by omega) (by omega) (by omega), hs_ne _ (by omega)]
      exact fD x y (by omega) (by omega) (by omega) (by omega)
    · by_cases q : c = 6
      · subst q
        have := pR g g0 g1
        rw [this.1, this.2]
        unfold zde zgt zp6
        rw [if_pos rfl, if_pos rfl]
        exact ⟨rfl, rfl⟩
      · rw [fR _ _ (by omega) (by omega) (by omega) (by omega) (by omega) (by omega), fR _ _ (by omega) (by omega) (by omega) (by omega) (by omega) (by omega), du g c g0 g1 c0 c7, ge g c g0 g1 c0 c7, if_neg q]
        unfold zde zgt
        rw [if_neg q, if_neg q]
        refine ⟨?_, rfl⟩
        by_cases q2 : c = 5
        · rw [if_pos q2, q2]
        · by_cases q3 : c ≤ 4
          · rw [if_neg q2, d5elo q3]
          · omega
    · rw [fR _ _ (by omega) (by omega) (by omega) (by omega) (by omega) (by omega), hs_ne _ (by omega), cP, fI _ _ (by omega) (by omega), cL]
      exact zct_6
    · rw [fR _ _ (by omega) (by omega) (by omega) (by omega) (by omega) (by omega), hs_eq]
    · rw [iR]; rfl
    · rw [bR]; rfl
    · intro p p0 p1
      exact tR p p0 p1
end X9I
