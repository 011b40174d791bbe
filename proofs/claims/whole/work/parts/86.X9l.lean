/-! the reference: what persons take, who is in a stock, heirs, ranks -/
section X9L
variable {d bc bs : Nat} {Q : PQ} {h h0 z : PH}
set_option maxRecDepth 100000 in
set_option maxHeartbeats 4000000 in
theorem lp_X9_takesOf {g p : Int} (hd : 4 ≤ d) (M0 : MR_ h0 z) (R : RM_ h0 z) (g0 : 0 ≤ g) (g1 : g < z 0 2) (p0 : 0 ≤ p) (p1 : p < z 0 1) (k : ∀ h : PH, G h → FT_ h0 h → Q.1 (some (0, ztk z g p)) nN h) : ∀ (m : Nat) (c w : Int) (h : PH), (0 ≤ c) → (c + m = 7) → (G h) → (FT_ h0 h) → (w = sumI (fun c => (if 0 < zgt z g c then pv_ (z 0 1) (z 2) (zdd z) (zlv z) (zgt z g c) (z 6 g) p else 0)) 0 c.toNat) → S_ MX9_takesOf d bc bs Q 5 [(2, 196), (0, g), (0, p), (0, w), (0, c)] [] nN h := by
  intro m
  induction m with
  | zero =>
    intro c w h c0 cm gG fr hw
    have hG := gG
    have M := sc_M M0 gG (ft_sc fr)
    have I := mr_i M
    have hT := I.2.1
    have hP := I.2.2.1
    have hN := I.2.2.2.1
    have nn := M.2.1
    have R9 := ft_rm fr R
    have gg := I.2.2.2.2.2 g g0 g1
    have gb := zgt_bd I (c := c) g0 g1 c0
    refine s_iload dX9_takesOf_5 rfl ?_
    refine s_bipush dX9_takesOf_7 (by decide) ?_
    refine s_icmp_ge (tgt := 64) dX9_takesOf_9 (by decide) (by first | exact hG.2 _ _ | exact b01_in _ | assumption | exact ⟨by omega, by omega⟩) (by first | exact hG.2 _ _ | exact b01_in _ | assumption | exact ⟨by omega, by omega⟩) (fun c1 => ?_) (fun c1 => ?_)
    · refine s_iload_n dX9_takesOf_64 rfl ?_
      rw [hw, show c = 7 by omega]
      exact s_ireturn dX9_takesOf_65 rfl (k h gG fr)
    · exact absurd c1 (by omega)
  | succ m ih =>
    intro c w h c0 cm gG fr hw
    have hG := gG
    have M := sc_M M0 gG (ft_sc fr)
    have I := mr_i M
    have hT := I.2.1
    have hP := I.2.2.1
    have hN := I.2.2.2.1
    have nn := M.2.1
    have R9 := ft_rm fr R
    have gg := I.2.2.2.2.2 g g0 g1
    have gb := zgt_bd I (c := c) g0 g1 c0
    refine s_iload dX9_takesOf_5 rfl ?_
    refine s_bipush dX9_takesOf_7 (by decide) ?_
    refine s_icmp_ge (tgt := 64) dX9_takesOf_9 (by decide) (by first | exact hG.2 _ _ | exact b01_in _ | assumption | exact ⟨by omega, by omega⟩) (by first | exact hG.2 _ _ | exact b01_in _ | assumption | exact ⟨by omega, by omega⟩) (fun c1 => ?_) (fun c1 => ?_)
    · exact absurd c1 (by omega)
    · refine s_aload_n dX9_takesOf_12 rfl ?_
      refine s_getr dX9_takesOf_13 fl_X9_70 kl_7 (by decide) rfl io_196 (z := 31) rfl (rf_7_31 hG.1 io_196) (rk_7_31 io_196).1 ?_
      refine s_bipush dX9_takesOf_16 (by decide) ?_
      refine s_iload_n dX9_takesOf_18 rfl ?_
      refine s_imul dX9_takesOf_19 ?_
      refine s_iload dX9_takesOf_20 rfl ?_
      refine s_iadd dX9_takesOf_22 ?_
      refine s_iaload dX9_takesOf_23 (rk_7_31 io_196) (by omega) (by omega) ?_
      rw [(R9.1 g c g0 g1 c0 (by omega)).2]
      refine s_if_le (tgt := 58) dX9_takesOf_24 (by decide) (by first | exact hG.2 _ _ | exact b01_in _ | assumption | exact ⟨by omega, by omega⟩) (fun c2 => ?_) (fun c2 => ?_)
      · refine s_iinc dX9_takesOf_58 rfl (by decide) rfl (L' := [_, _, _, _, _]) rfl ?_
        refine s_goto (tgt := 5) dX9_takesOf_61 (by decide) ?_
        refine ih (c + 1) _ _ (by omega) (by omega) hG fr (by rw [sumI_up _ c0, hw, if_neg (by omega)]; omega)
      · refine s_aload_n dX9_takesOf_27 rfl ?_
        refine s_aload_n dX9_takesOf_28 rfl ?_
        refine s_iload_n dX9_takesOf_29 rfl ?_
        refine s_iconst dX9_takesOf_30 ?_
        refine s_callV (d' := d - 1) (bc' := 0) (bs' := 0) (as := [_, _]) dX9_takesOf_31 vf_X9_317 (dd_ (by omega) (by decide)) ⟨Nat.zero_le _, Nat.zero_le _⟩ rfl rfl (Nat.le_of_ble_eq_true rfl) kl_7 rfl io_196 ?_
        refine c_X9_of M g0 g1 (by omega) (by omega) (j := 6) (by omega) ?_
        refine s_aload_n dX9_takesOf_34 rfl ?_
        refine s_getr dX9_takesOf_35 fl_X9_70 kl_7 (by decide) rfl io_196 (z := 31) rfl (rf_7_31 hG.1 io_196) (rk_7_31 io_196).1 ?_
        refine s_bipush dX9_takesOf_38 (by decide) ?_
        refine s_iload_n dX9_takesOf_40 rfl ?_
        refine s_imul dX9_takesOf_41 ?_
        refine s_iload dX9_takesOf_42 rfl ?_
        refine s_iadd dX9_takesOf_44 ?_
        refine s_iaload dX9_takesOf_45 (rk_7_31 io_196) (by omega) (by omega) ?_
        rw [(R9.1 g c g0 g1 c0 (by omega)).2]
        refine s_callV (d' := d - 1) (bc' := 0) (bs' := 0) (as := [_, _]) dX9_takesOf_46 vf_X9_423 (dd_ (by omega) (by decide)) ⟨Nat.zero_le _, Nat.zero_le _⟩ rfl rfl (Nat.le_of_ble_eq_true rfl) kl_7 rfl io_196 ?_
        refine c_X9_passes (by omega) M gg.2.1.1 gg.2.1.2 gb.1 (by omega) (fun hhG1 ghG1 fhG1 vhG1 => ?_)
        have hG1 := ghG1
        have M := sc_M M ghG1 (ft_sc fhG1)
        have fr : FT_ h0 hhG1 := fun x y a b => (fhG1 x y a b).trans (fr x y a b)
        have vp := vhG1 p p0 p1
        refine s_iload_n dX9_takesOf_49 rfl ?_
        refine s_aload_n dX9_takesOf_50 rfl ?_
        refine s_getr dX9_takesOf_51 fl_X9_89 kl_7 (by decide) rfl io_196 (z := 41) rfl (rf_7_41 hG1.1 io_196) (rk_7_41 io_196).1 ?_
        refine s_iload_n dX9_takesOf_54 rfl ?_
        refine s_iaload dX9_takesOf_55 (rk_7_41 io_196) (by omega) (by omega) ?_
        rw [vp]
        refine s_iadd dX9_takesOf_56 ?_
        refine s_istore_n dX9_takesOf_57 (by decide) rfl (L' := [_, _, _, _, _]) rfl ?_
        refine s_iinc dX9_takesOf_58 rfl (by decide) rfl (L' := [_, _, _, _, _]) rfl ?_
        refine s_goto (tgt := 5) dX9_takesOf_61 (by decide) ?_
        refine ih (c + 1) _ _ (by omega) (by omega) hG1 fr (by rw [sumI_up _ c0, hw, if_pos (by omega)])
set_option maxRecDepth 100000 in
set_option maxHeartbeats 4000000 in
theorem c_X9_takesOf {g p : Int} (hd : 4 ≤ d) (M : MR_ h z) (R : RM_ h z) (g0 : 0 ≤ g) (g1 : g < z 0 2) (p0 : 0 ≤ p) (p1 : p < z 0 1) (k : ∀ h1 : PH, G h1 → FT_ h h1 → Q.1 (some (0, ztk z g p)) nN h1) : Cl_ yX9_takesOf MX9_takesOf d bc bs [(2, 196), (0, g), (0, p)] nN h Q := by
  refine s_enter pn_X9 rfl (Nat.le_of_ble_eq_true rfl) (L := [(2, _), (0, _), (0, _), (9, 0), (9, 0)]) rfl ?_
  have hG := M.1
  have I := mr_i M
  have hT := I.2.1
  have hP := I.2.2.1
  have hN := I.2.2.2.1
  have nn := M.2.1
  refine s_iconst dX9_takesOf_0 ?_
  refine s_istore_n dX9_takesOf_1 (by decide) rfl (L' := [_, _, _, _, _]) rfl ?_
  refine s_iconst dX9_takesOf_2 ?_
  refine s_istore dX9_takesOf_3 (by decide) rfl (L' := [_, _, _, _, _]) rfl ?_
  exact lp_X9_takesOf hd M R g0 g1 p0 p1 k 7 0 0 h (Int.le_refl _) (by omega) hG (fun _ _ _ _ => rfl) rfl
set_option maxRecDepth 100000 in
set_option maxHeartbeats 4000000 in
theorem c_X9_takes {g p : Int} (hd : 10 ≤ d) (M : MR_ h z) (hg : inI g) (hp : inI p) (k : 0 ≤ g → g < z 0 2 → 0 ≤ p → p < z 0 1 → MK_ Q h z 0 (ztk z g p)) (k1 : ¬ ((0 ≤ g ∧ g < z 0 2) ∧ 0 ≤ p ∧ p < z 0 1) → MK_ Q h z 1 0) : Cl_ yX9_takes MX9_takes d bc bs [(2, 196), (0, g), (0, p)] nN h Q := by
  refine s_enter pn_X9 rfl (Nat.le_of_ble_eq_true rfl) (L := [(2, _), (0, _), (0, _)]) rfl ?_
  have hG := M.1
  have I := mr_i M
  have hT := I.2.1
  have hP := I.2.2.1
  have hN := I.2.2.2.1
  have nn := M.2.1
  refine s_aload_n dX9_takes_0 rfl ?_
  refine s_aload_n dX9_takes_1 rfl ?_
  refine s_iload_n dX9_takes_2 rfl ?_
  refine s_callV (d' := d - 1) (bc' := 0) (bs' := 0) (as := [_]) dX9_takes_3 vf_X9_319 (dd_ (by omega) (by decide)) ⟨Nat.zero_le _, Nat.zero_le _⟩ rfl rfl (Nat.le_of_ble_eq_true rfl) kl_7 rfl io_196 ?_
  refine c_X9_isGift (by omega) M hg ?_
  refine s_if_eq (tgt := 21) dX9_takes_6 (by decide) (by first | exact hG.2 _ _ | exact b01_in _ | assumption | exact ⟨by omega, by omega⟩) (fun c1 => ?_) (fun c1 => ?_)
  · have c1 := b01_0.mp c1
    refine s_iconst dX9_takes_21 ?_
    refine s_putiG 0 dX9_takes_22 fl_X9_98 kl_7 (by decide) rfl rfl io_196 (z := 0) rfl (by decide +kernel) hG (by first | exact hG.2 _ _ | exact b01_in _ | assumption | exact ⟨by omega, by omega⟩) (fun hG1 => ?_)
    obtain ⟨M, fm, th⟩ := mr_th M hG1
    refine s_aload_n dX9_takes_25 rfl ?_
    refine s_geti dX9_takes_26 fl_X9_98 kl_7 (by decide) rfl io_196 (z := 0) rfl ?_
    rw [th]
    refine s_if_le (tgt := 34) dX9_takes_29 (by decide) (by first | exact hG1.2 _ _ | exact hG.2 _ _ | exact b01_in _ | assumption | exact ⟨by omega, by omega⟩) (fun c2 => ?_) (fun c2 => ?_)
    · exact absurd c2 (by decide)
    · refine s_iconst dX9_takes_32 ?_
      exact s_ireturn dX9_takes_33 rfl (k1 (by omega) _ M fm th)
  · have c1 := b01_n.mp c1
    refine s_aload_n dX9_takes_9 rfl ?_
    refine s_iload_n dX9_takes_10 rfl ?_
    refine s_callV (d' := d - 1) (bc' := 0) (bs' := 0) (as := [_]) dX9_takes_11 vf_X9_290 (dd_ (by omega) (by decide)) ⟨Nat.zero_le _, Nat.zero_le _⟩ rfl rfl (Nat.le_of_ble_eq_true rfl) kl_7 rfl io_196 ?_
    refine c_X9_isPerson (by omega) M hp ?_
    refine s_if_eq (tgt := 21) dX9_takes_14 (by decide) (by first | exact hG.2 _ _ | exact b01_in _ | assumption | exact ⟨by omega, by omega⟩) (fun c3 => ?_) (fun c3 => ?_)
    · have c3 := b01_0.mp c3
      refine s_iconst dX9_takes_21 ?_
      refine s_putiG 0 dX9_takes_22 fl_X9_98 kl_7 (by decide) rfl rfl io_196 (z := 0) rfl (by decide +kernel) hG (by first | exact hG.2 _ _ | exact b01_in _ | assumption | exact ⟨by omega, by omega⟩) (fun hG2 => ?_)
      obtain ⟨M, fm, th⟩ := mr_th M hG2
      refine s_aload_n dX9_takes_25 rfl ?_
      refine s_geti dX9_takes_26 fl_X9_98 kl_7 (by decide) rfl io_196 (z := 0) rfl ?_
      rw [th]
      refine s_if_le (tgt := 34) dX9_takes_29 (by decide) (by first | exact hG2.2 _ _ | exact hG.2 _ _ | exact b01_in _ | assumption | exact ⟨by omega, by omega⟩) (fun c4 => ?_) (fun c4 => ?_)
      · exact absurd c4 (by decide)
      · refine s_iconst dX9_takes_32 ?_
        exact s_ireturn dX9_takes_33 rfl (k1 (by omega) _ M fm th)
    · have c3 := b01_n.mp c3
      refine s_iconst dX9_takes_17 ?_
      refine s_goto (tgt := 22) dX9_takes_18 (by decide) ?_
      refine s_putiG 0 dX9_takes_22 fl_X9_98 kl_7 (by decide) rfl rfl io_196 (z := 0) rfl (by decide +kernel) hG (by first | exact hG.2 _ _ | exact b01_in _ | assumption | exact ⟨by omega, by omega⟩) (fun hG3 => ?_)
      obtain ⟨M, fm, th⟩ := mr_th M hG3
      refine s_aload_n dX9_takes_25 rfl ?_
      refine s_geti dX9_takes_26 fl_X9_98 kl_7 (by decide) rfl io_196 (z := 0) rfl ?_
      rw [th]
      refine s_if_le (tgt := 34) dX9_takes_29 (by decide) (by first | exact hG3.2 _ _ | exact hG.2 _ _ | exact b01_in _ | assumption | exact ⟨by omega, by omega⟩) (fun c5 => ?_) (fun c5 => ?_)
      · refine s_aload_n dX9_takes_34 rfl ?_
        refine s_callV (d' := d - 1) (bc' := 0) (bs' := 0) (as := []) dX9_takes_35 vf_X9_405 (dd_ (by omega) (by decide)) ⟨Nat.zero_le _, Nat.zero_le _⟩ rfl rfl (Nat.le_of_ble_eq_true rfl) kl_7 rfl io_196 ?_
        refine c_X9_lays (by omega) M (fun hhG4 ghG4 fhG4 RhG4 => ?_)
        have hG4 := ghG4
        have M := sc_M M ghG4 fhG4
        have fm := fm.tr (sc_fm fhG4)
        have th := (sc_0 fhG4).trans th
        have R9 := RhG4
        refine s_aload_n dX9_takes_38 rfl ?_
        refine s_iload_n dX9_takes_39 rfl ?_
        refine s_iload_n dX9_takes_40 rfl ?_
        refine s_callV (d' := d - 1) (bc' := 0) (bs' := 0) (as := [_, _]) dX9_takes_41 vf_X9_427 (dd_ (by omega) (by decide)) ⟨Nat.zero_le _, Nat.zero_le _⟩ rfl rfl (Nat.le_of_ble_eq_true rfl) kl_7 rfl io_196 ?_
        refine c_X9_takesOf (by omega) M R9 (by omega) (by omega) (by omega) (by omega) (fun hhG5 ghG5 fhG5 => ?_)
        have hG5 := ghG5
        have M := sc_M M ghG5 (ft_sc fhG5)
        have R9 := ft_rm fhG5 R9
        have fm := fm.tr (sc_fm (ft_sc fhG5))
        have th := (sc_0 (ft_sc fhG5)).trans th
        exact s_ireturn dX9_takes_44 rfl (k (by omega) (by omega) (by omega) (by omega) _ M fm th)
      · exact absurd c5 (by decide)
set_option maxRecDepth 100000 in
set_option maxHeartbeats 4000000 in
theorem lp_X9_intestateOf {p : Int} (hd : 4 ≤ d) (M0 : MR_ h0 z) (R : RM_ h0 z) (p0 : 0 ≤ p) (p1 : p < z 0 1) (k : ∀ h : PH, G h → FT_ h0 h → Q.1 (some (0, zih z p)) nN h) : ∀ (m : Nat) (x w : Int) (h : PH), (0 ≤ x) → (x + m = z 0 1) → (G h) → (FT_ h0 h) → (w = sumI (fun x => (if ¬ z 3 x = 0 ∧ 0 < zlv z x then pv_ (z 0 1) (z 2) (zdd z) (zlv z) (hp_ (z 3) (zlv z) (zhr z) (zin z) x) x p else 0)) 0 x.toNat) → S_ MX9_intestateOf d bc bs Q 4 [(2, 196), (0, p), (0, w), (0, x)] [] nN h := by
  intro m
  induction m with
  | zero =>
    intro x w h x0 xm gG fr hw
    have hG := gG
    have M := sc_M M0 gG (ft_sc fr)
    have I := mr_i M
    have hT := I.2.1
    have hP := I.2.2.1
    have hN := I.2.2.2.1
    have nn := M.2.1
    have R9 := ft_rm fr R
    have zb := zin_bd I
    have hv : x < z 0 1 → h (196 + 21) x = if ¬ z 3 x = 0 ∧ 0 < zlv z x then hp_ (z 3) (zlv z) (zhr z) (zin z) x else 0 := fun c => R9.2.2.2.2.2 x x0 c
    have hv3 : x < z 0 1 → (¬ z 3 x = 0 ∧ 0 < zlv z x) → hp_ (z 3) (zlv z) (zhr z) (zin z) x = h (196 + 21) x := fun c q => by rw [hv c, if_pos q]
    have hv2 : x < z 0 1 → ¬ (¬ z 3 x = 0 ∧ 0 < zlv z x) → h (196 + 21) x = 0 := fun c q => by rw [hv c, if_neg q]
    have hvb : x < z 0 1 → 0 ≤ h (196 + 21) x ∧ h (196 + 21) x ≤ 1000000 := fun c => by
      by_cases q : ¬ z 3 x = 0 ∧ 0 < zlv z x
      · have b := hp_bd (ch := z 3) (lv := zlv z) (H := zhr z) (I := zin z) (x := x) (zhr_ge x0 c q) zb.1
        rw [hv3 c q] at b
        omega
      · rw [hv2 c q]
        omega
    have hv1 : x < z 0 1 → h (196 + 21) x ≤ 0 → (¬ z 3 x = 0 ∧ 0 < zlv z x) → hp_ (z 3) (zlv z) (zhr z) (zin z) x = 0 := fun c2 c q => by
      have b := hvb c2
      rw [hv3 c2 q]
      omega
    refine s_iload_n dX9_intestateOf_4 rfl ?_
    refine s_aload_n dX9_intestateOf_5 rfl ?_
    refine s_geti dX9_intestateOf_6 fl_X9_281 kl_7 (by decide) rfl io_196 (z := 6) rfl ?_
    refine s_icmp_ge (tgt := 47) dX9_intestateOf_9 (by decide) (by first | exact hG.2 _ _ | exact b01_in _ | assumption | exact ⟨by omega, by omega⟩) (by first | exact hG.2 _ _ | exact b01_in _ | assumption | exact ⟨by omega, by omega⟩) (fun c1 => ?_) (fun c1 => ?_)
    · refine s_iload_n dX9_intestateOf_47 rfl ?_
      rw [hw, show x = z 0 1 by omega]
      exact s_ireturn dX9_intestateOf_48 rfl (k h gG fr)
    · exact absurd c1 (by omega)
  | succ m ih =>
    intro x w h x0 xm gG fr hw
    have hG := gG
    have M := sc_M M0 gG (ft_sc fr)
    have I := mr_i M
    have hT := I.2.1
    have hP := I.2.2.1
    have hN := I.2.2.2.1
    have nn := M.2.1
    have R9 := ft_rm fr R
    have zb := zin_bd I
    have hv : x < z 0 1 → h (196 + 21) x = if ¬ z 3 x = 0 ∧ 0 < zlv z x then hp_ (z 3) (zlv z) (zhr z) (zin z) x else 0 := fun c => R9.2.2.2.2.2 x x0 c
    have hv3 : x < z 0 1 → (¬ z 3 x = 0 ∧ 0 < zlv z x) → hp_ (z 3) (zlv z) (zhr z) (zin z) x = h (196 + 21) x := fun c q => by rw [hv c, if_pos q]
    have hv2 : x < z 0 1 → ¬ (¬ z 3 x = 0 ∧ 0 < zlv z x) → h (196 + 21) x = 0 := fun c q => by rw [hv c, if_neg q]
    have hvb : x < z 0 1 → 0 ≤ h (196 + 21) x ∧ h (196 + 21) x ≤ 1000000 := fun c => by
      by_cases q : ¬ z 3 x = 0 ∧ 0 < zlv z x
      · have b := hp_bd (ch := z 3) (lv := zlv z) (H := zhr z) (I := zin z) (x := x) (zhr_ge x0 c q) zb.1
        rw [hv3 c q] at b
        omega
      · rw [hv2 c q]
        omega
    have hv1 : x < z 0 1 → h (196 + 21) x ≤ 0 → (¬ z 3 x = 0 ∧ 0 < zlv z x) → hp_ (z 3) (zlv z) (zhr z) (zin z) x = 0 := fun c2 c q => by
      have b := hvb c2
      rw [hv3 c2 q]
      omega
    refine s_iload_n dX9_intestateOf_4 rfl ?_
    refine s_aload_n dX9_intestateOf_5 rfl ?_
    refine s_geti dX9_intestateOf_6 fl_X9_281 kl_7 (by decide) rfl io_196 (z := 6) rfl ?_
    refine s_icmp_ge (tgt := 47) dX9_intestateOf_9 (by decide) (by first | exact hG.2 _ _ | exact b01_in _ | assumption | exact ⟨by omega, by omega⟩) (by first | exact hG.2 _ _ | exact b01_in _ | assumption | exact ⟨by omega, by omega⟩) (fun c1 => ?_) (fun c1 => ?_)
    · exact absurd c1 (by omega)
    · refine s_aload_n dX9_intestateOf_12 rfl ?_
      refine s_getr dX9_intestateOf_13 fl_X9_76 kl_7 (by decide) rfl io_196 (z := 37) rfl (rf_7_37 hG.1 io_196) (rk_7_37 io_196).1 ?_
      refine s_iload_n dX9_intestateOf_16 rfl ?_
      refine s_iaload dX9_intestateOf_17 (rk_7_37 io_196) (by omega) (by omega) ?_
      refine s_if_le (tgt := 41) dX9_intestateOf_18 (by decide) (by first | exact hG.2 _ _ | exact b01_in _ | assumption | exact ⟨by omega, by omega⟩) (fun c2 => ?_) (fun c2 => ?_)
      · refine s_iinc dX9_intestateOf_41 rfl (by decide) rfl (L' := [_, _, _, _]) rfl ?_
        refine s_goto (tgt := 4) dX9_intestateOf_44 (by decide) ?_
        refine ih (x + 1) _ _ (by omega) (by omega) hG fr ?_
        rw [sumI_up _ x0, ← hw]
        by_cases q : ¬ z 3 x = 0 ∧ 0 < zlv z x
        · have e := hv1 (by omega) (by omega) q
          rw [if_pos q, e]
          have b := pv_bd (n := z 0 1) (pa := z 2) (dd := zdd z) (lv := zlv z) (m := 0) (x := x) (Int.le_refl _) x0 (by omega) p p0 p1
          omega
        · rw [if_neg q]
          omega
      · refine s_aload_n dX9_intestateOf_21 rfl ?_
        refine s_iload_n dX9_intestateOf_22 rfl ?_
        refine s_aload_n dX9_intestateOf_23 rfl ?_
        refine s_getr dX9_intestateOf_24 fl_X9_76 kl_7 (by decide) rfl io_196 (z := 37) rfl (rf_7_37 hG.1 io_196) (rk_7_37 io_196).1 ?_
        refine s_iload_n dX9_intestateOf_27 rfl ?_
        refine s_iaload dX9_intestateOf_28 (rk_7_37 io_196) (by omega) (by omega) ?_
        refine s_callV (d' := d - 1) (bc' := 0) (bs' := 0) (as := [_, _]) dX9_intestateOf_29 vf_X9_423 (dd_ (by omega) (by decide)) ⟨Nat.zero_le _, Nat.zero_le _⟩ rfl rfl (Nat.le_of_ble_eq_true rfl) kl_7 rfl io_196 ?_
        refine c_X9_passes (by omega) M x0 (by omega) (hvb (by omega)).1 (hvb (by omega)).2 (fun hhG1 ghG1 fhG1 vhG1 => ?_)
        have hG1 := ghG1
        have M := sc_M M ghG1 (ft_sc fhG1)
        have fr : FT_ h0 hhG1 := fun x y a b => (fhG1 x y a b).trans (fr x y a b)
        have vp := vhG1 p p0 p1
        refine s_iload_n dX9_intestateOf_32 rfl ?_
        refine s_aload_n dX9_intestateOf_33 rfl ?_
        refine s_getr dX9_intestateOf_34 fl_X9_89 kl_7 (by decide) rfl io_196 (z := 41) rfl (rf_7_41 hG1.1 io_196) (rk_7_41 io_196).1 ?_
        refine s_iload_n dX9_intestateOf_37 rfl ?_
        refine s_iaload dX9_intestateOf_38 (rk_7_41 io_196) (by omega) (by omega) ?_
        rw [vp]
        refine s_iadd dX9_intestateOf_39 ?_
        refine s_istore_n dX9_intestateOf_40 (by decide) rfl (L' := [_, _, _, _]) rfl ?_
        refine s_iinc dX9_intestateOf_41 rfl (by decide) rfl (L' := [_, _, _, _]) rfl ?_
        refine s_goto (tgt := 4) dX9_intestateOf_44 (by decide) ?_
        refine ih (x + 1) _ _ (by omega) (by omega) hG1 fr ?_
        have q : ¬ z 3 x = 0 ∧ 0 < zlv z x := Classical.byContradiction fun q => by have := hv2 (by omega) q; omega
        rw [sumI_up _ x0, ← hw, if_pos q, hv3 (by omega) q]
set_option maxRecDepth 100000 in
set_option maxHeartbeats 4000000 in
theorem c_X9_intestateOf {p : Int} (hd : 4 ≤ d) (M : MR_ h z) (R : RM_ h z) (p0 : 0 ≤ p) (p1 : p < z 0 1) (k : ∀ h1 : PH, G h1 → FT_ h h1 → Q.1 (some (0, zih z p)) nN h1) : Cl_ yX9_intestateOf MX9_intestateOf d bc bs [(2, 196), (0, p)] nN h Q := by
  refine s_enter pn_X9 rfl (Nat.le_of_ble_eq_true rfl) (L := [(2, _), (0, _), (9, 0), (9, 0)]) rfl ?_
  have hG := M.1
  have I := mr_i M
  have hT := I.2.1
  have hP := I.2.2.1
  have hN := I.2.2.2.1
  have nn := M.2.1
  refine s_iconst dX9_intestateOf_0 ?_
  refine s_istore_n dX9_intestateOf_1 (by decide) rfl (L' := [_, _, _, _]) rfl ?_
  refine s_iconst dX9_intestateOf_2 ?_
  refine s_istore_n dX9_intestateOf_3 (by decide) rfl (L' := [_, _, _, _]) rfl ?_
  exact lp_X9_intestateOf hd M R p0 p1 k (z 0 1).toNat 0 0 h (Int.le_refl _) (by omega) hG (fun _ _ _ _ => rfl) rfl
set_option maxRecDepth 100000 in
set_option maxHeartbeats 4000000 in
theorem lp_X9_takesAllOf {p : Int} (hd : 5 ≤ d) (M0 : MR_ h0 z) (R : RM_ h0 z) (p0 : 0 ≤ p) (p1 : p < z 0 1) (k : ∀ h : PH, G h → FT_ h0 h → Q.1 (some (0, zta z p)) nN h) : ∀ (m : Nat) (g w : Int) (h : PH), (0 ≤ g) → (g + m = z 0 2) → (G h) → (FT_ h0 h) → (w = zih z p + sumI (fun g => ztk z g p) 0 g.toNat) → S_ MX9_takesAllOf d bc bs Q 12 [(2, 196), (0, p), (0, w), (0, g)] [] nN h := by
  intro m
  induction m with
  | zero =>
    intro g w h g0 gm gG fr hw
    have hG := gG
    have M := sc_M M0 gG (ft_sc fr)
    have I := mr_i M
    have hT := I.2.1
    have hP := I.2.2.1
    have hN := I.2.2.2.1
    have nn := M.2.1
    have R9 := ft_rm fr R
    refine s_iload_n dX9_takesAllOf_12 rfl ?_
    refine s_aload_n dX9_takesAllOf_13 rfl ?_
    refine s_geti dX9_takesAllOf_14 fl_X9_275 kl_7 (by decide) rfl io_196 (z := 7) rfl ?_
    refine s_icmp_ge (tgt := 35) dX9_takesAllOf_17 (by decide) (by first | exact hG.2 _ _ | exact b01_in _ | assumption | exact ⟨by omega, by omega⟩) (by first | exact hG.2 _ _ | exact b01_in _ | assumption | exact ⟨by omega, by omega⟩) (fun c1 => ?_) (fun c1 => ?_)
    · refine s_iload_n dX9_takesAllOf_35 rfl ?_
      rw [hw, show g = z 0 2 by omega]
      exact s_ireturn dX9_takesAllOf_36 rfl (k h gG fr)
    · exact absurd c1 (by omega)
  | succ m ih =>
    intro g w h g0 gm gG fr hw
    have hG := gG
    have M := sc_M M0 gG (ft_sc fr)
    have I := mr_i M
    have hT := I.2.1
    have hP := I.2.2.1
    have hN := I.2.2.2.1
    have nn := M.2.1
    have R9 := ft_rm fr R
    refine s_iload_n dX9_takesAllOf_12 rfl ?_
    refine s_aload_n dX9_takesAllOf_13 rfl ?_
    refine s_geti dX9_takesAllOf_14 fl_X9_275 kl_7 (by decide) rfl io_196 (z := 7) rfl ?_
    refine s_icmp_ge (tgt := 35) dX9_takesAllOf_17 (by decide) (by first | exact hG.2 _ _ | exact b01_in _ | assumption | exact ⟨by omega, by omega⟩) (by first | exact hG.2 _ _ | exact b01_in _ | assumption | exact ⟨by omega, by omega⟩) (fun c1 => ?_) (fun c1 => ?_)
    · exact absurd c1 (by omega)
    · refine s_iload_n dX9_takesAllOf_20 rfl ?_
      refine s_aload_n dX9_takesAllOf_21 rfl ?_
      refine s_iload_n dX9_takesAllOf_22 rfl ?_
      refine s_iload_n dX9_takesAllOf_23 rfl ?_
      refine s_callV (d' := d - 1) (bc' := 0) (bs' := 0) (as := [_, _]) dX9_takesAllOf_24 vf_X9_427 (dd_ (by omega) (by decide)) ⟨Nat.zero_le _, Nat.zero_le _⟩ rfl rfl (Nat.le_of_ble_eq_true rfl) kl_7 rfl io_196 ?_
      refine c_X9_takesOf (by omega) M R9 g0 (by omega) p0 p1 (fun hhG1 ghG1 fhG1 => ?_)
      have hG1 := ghG1
      have M := sc_M M ghG1 (ft_sc fhG1)
      have R9 := ft_rm fhG1 R9
      have fr : FT_ h0 hhG1 := fun x y a b => (fhG1 x y a b).trans (fr x y a b)
      refine s_iadd dX9_takesAllOf_27 ?_
      refine s_istore_n dX9_takesAllOf_28 (by decide) rfl (L' := [_, _, _, _]) rfl ?_
      refine s_iinc dX9_takesAllOf_29 rfl (by decide) rfl (L' := [_, _, _, _]) rfl ?_
      refine s_goto (tgt := 12) dX9_takesAllOf_32 (by decide) ?_
      refine ih (g + 1) _ _ (by omega) (by omega) hG1 fr (by rw [sumI_up _ g0, hw]; omega)
set_option maxRecDepth 100000 in
set_option maxHeartbeats 4000000 in
theorem c_X9_takesAllOf {p : Int} (hd : 9 ≤ d) (M : MR_ h z) (p0 : 0 ≤ p) (p1 : p < z 0 1) (k : ∀ h1 : PH, G h1 → SC_ h h1 → RM_ h1 z → Q.1 (some (0, zta z p)) nN h1) : Cl_ yX9_takesAllOf MX9_takesAllOf d bc bs [(2, 196), (0, p)] nN h Q := by
  refine s_enter pn_X9 rfl (Nat.le_of_ble_eq_true rfl) (L := [(2, _), (0, _), (9, 0), (9, 0)]) rfl ?_
  have hG := M.1
  have I := mr_i M
  have hT := I.2.1
  have hP := I.2.2.1
  have hN := I.2.2.2.1
  have nn := M.2.1
  refine s_aload_n dX9_takesAllOf_0 rfl ?_
  refine s_callV (d' := d - 1) (bc' := 0) (bs' := 0) (as := []) dX9_takesAllOf_1 vf_X9_405 (dd_ (by omega) (by decide)) ⟨Nat.zero_le _, Nat.zero_le _⟩ rfl rfl (Nat.le_of_ble_eq_true rfl) kl_7 rfl io_196 ?_
  refine c_X9_lays (by omega) M (fun hL gL fL RL => ?_)
  have hG1 := gL
  have M := sc_M M gL fL
  refine s_aload_n dX9_takesAllOf_4 rfl ?_
  refine s_iload_n dX9_takesAllOf_5 rfl ?_
  refine s_callV (d' := d - 1) (bc' := 0) (bs' := 0) (as := [_]) dX9_takesAllOf_6 vf_X9_430 (dd_ (by omega) (by decide)) ⟨Nat.zero_le _, Nat.zero_le _⟩ rfl rfl (Nat.le_of_ble_eq_true rfl) kl_7 rfl io_196 ?_
  refine c_X9_intestateOf (by omega) M RL p0 p1 (fun hI gI fI => ?_)
  have hG2 := gI
  have M := sc_M M gI (ft_sc fI)
  have RI := ft_rm fI RL
  refine s_istore_n dX9_takesAllOf_9 (by decide) rfl (L' := [_, _, _, _]) rfl ?_
  refine s_iconst dX9_takesAllOf_10 ?_
  refine s_istore_n dX9_takesAllOf_11 (by decide) rfl (L' := [_, _, _, _]) rfl ?_
  exact lp_X9_takesAllOf (by omega) M RI p0 p1 (fun h1 g1 f1 => k h1 g1 (fun x y a b => by rw [ft_sc f1 x y a b, ft_sc fI x y a b]; exact fL x y a b) (ft_rm f1 RI)) (z 0 2).toNat 0 _ hI (Int.le_refl _) (by omega) gI (fun _ _ _ _ => rfl) (by show _ = zih z p + 0; omega)
set_option maxRecDepth 100000 in
set_option maxHeartbeats 4000000 in
theorem lp_X9_taken {p v a9 : Int} (hd : 5 ≤ d) (M0 : MR_ h0 z) (R : RM_ h0 z) (p0 : 0 ≤ p) (p1 : p < z 0 1) (k : ∀ h : PH, G h → FT_ h0 h → Q.1 (some (0, sumI (fun g => if z 6 g = p then 0 else ztk z g p) 0 (z 0 2).toNat)) nN h) : ∀ (m : Nat) (g w : Int) (h : PH), (0 ≤ g) → (g + m = z 0 2) → (G h) → (FT_ h0 h) → (w = sumI (fun g => if z 6 g = p then 0 else ztk z g p) 0 g.toNat) → S_ MX9_taken d bc bs Q 73 [(2, 196), (0, p), (0, v), (0, a9), (0, w), (0, g)] [] nN h := by
  intro m
  induction m with
  | zero =>
    intro g w h g0 gm gG fr hw
    have hG := gG
    have M := sc_M M0 gG (ft_sc fr)
    have I := mr_i M
    have hT := I.2.1
    have hP := I.2.2.1
    have hN := I.2.2.2.1
    have nn := M.2.1
    have R9 := ft_rm fr R
    have gg := I.2.2.2.2.2 g g0
    refine s_iload dX9_taken_73 rfl ?_
    refine s_aload_n dX9_taken_75 rfl ?_
    refine s_geti dX9_taken_76 fl_X9_275 kl_7 (by decide) rfl io_196 (z := 7) rfl ?_
    refine s_icmp_ge (tgt := 115) dX9_taken_79 (by decide) (by first | exact hG.2 _ _ | exact b01_in _ | assumption | exact ⟨by omega, by omega⟩) (by first | exact hG.2 _ _ | exact b01_in _ | assumption | exact ⟨by omega, by omega⟩) (fun c1 => ?_) (fun c1 => ?_)
    · refine s_iload dX9_taken_115 rfl ?_
      rw [hw, show g = z 0 2 by omega]
      exact s_ireturn dX9_taken_117 rfl (k h gG fr)
    · exact absurd c1 (by omega)
  | succ m ih =>
    intro g w h g0 gm gG fr hw
    have hG := gG
    have M := sc_M M0 gG (ft_sc fr)
    have I := mr_i M
    have hT := I.2.1
    have hP := I.2.2.1
    have hN := I.2.2.2.1
    have nn := M.2.1
    have R9 := ft_rm fr R
    have gg := I.2.2.2.2.2 g g0
    refine s_iload dX9_taken_73 rfl ?_
    refine s_aload_n dX9_taken_75 rfl ?_
    refine s_geti dX9_taken_76 fl_X9_275 kl_7 (by decide) rfl io_196 (z := 7) rfl ?_
    refine s_icmp_ge (tgt := 115) dX9_taken_79 (by decide) (by first | exact hG.2 _ _ | exact b01_in _ | assumption | exact ⟨by omega, by omega⟩) (by first | exact hG.2 _ _ | exact b01_in _ | assumption | exact ⟨by omega, by omega⟩) (fun c1 => ?_) (fun c1 => ?_)
    · exact absurd c1 (by omega)
    · refine s_iload dX9_taken_82 rfl ?_
      refine s_aload_n dX9_taken_84 rfl ?_
      refine s_iload dX9_taken_85 rfl ?_
      refine s_iconst dX9_taken_87 ?_
      refine s_callV (d' := d - 1) (bc' := 0) (bs' := 0) (as := [_, _]) dX9_taken_88 vf_X9_317 (dd_ (by omega) (by decide)) ⟨Nat.zero_le _, Nat.zero_le _⟩ rfl rfl (Nat.le_of_ble_eq_true rfl) kl_7 rfl io_196 ?_
      have gg := gg (by omega)
      refine c_X9_of M g0 (by omega) (by omega) (by omega) (j := 6) (by omega) ?_
      refine s_iload_n dX9_taken_91 rfl ?_
      refine s_icmp_ne (tgt := 99) dX9_taken_92 (by decide) (by first | exact hG.2 _ _ | exact b01_in _ | assumption | exact ⟨by omega, by omega⟩) (by first | exact hG.2 _ _ | exact b01_in _ | assumption | exact ⟨by omega, by omega⟩) (fun c2 => ?_) (fun c2 => ?_)
      · refine s_aload_n dX9_taken_99 rfl ?_
        refine s_iload dX9_taken_100 rfl ?_
        refine s_iload_n dX9_taken_102 rfl ?_
        refine s_callV (d' := d - 1) (bc' := 0) (bs' := 0) (as := [_, _]) dX9_taken_103 vf_X9_427 (dd_ (by omega) (by decide)) ⟨Nat.zero_le _, Nat.zero_le _⟩ rfl rfl (Nat.le_of_ble_eq_true rfl) kl_7 rfl io_196 ?_
        refine c_X9_takesOf (by omega) M R9 g0 (by omega) p0 p1 (fun hhG1 ghG1 fhG1 => ?_)
        have hG1 := ghG1
        have M := sc_M M ghG1 (ft_sc fhG1)
        have R9 := ft_rm fhG1 R9
        have fr : FT_ h0 hhG1 := fun x y a b => (fhG1 x y a b).trans (fr x y a b)
        refine s_iadd dX9_taken_106 ?_
        refine s_istore dX9_taken_107 (by decide) rfl (L' := [_, _, _, _, _, _]) rfl ?_
        refine s_iinc dX9_taken_109 rfl (by decide) rfl (L' := [_, _, _, _, _, _]) rfl ?_
        refine s_goto (tgt := 73) dX9_taken_112 (by decide) ?_
        refine ih (g + 1) _ _ (by omega) (by omega) hG1 fr (by rw [sumI_up _ g0, ← hw, if_neg (by omega)])
      · refine s_iconst dX9_taken_95 ?_
        refine s_goto (tgt := 106) dX9_taken_96 (by decide) ?_
        refine s_iadd dX9_taken_106 ?_
        refine s_istore dX9_taken_107 (by decide) rfl (L' := [_, _, _, _, _, _]) rfl ?_
        refine s_iinc dX9_taken_109 rfl (by decide) rfl (L' := [_, _, _, _, _, _]) rfl ?_
        refine s_goto (tgt := 73) dX9_taken_112 (by decide) ?_
        refine ih (g + 1) _ _ (by omega) (by omega) hG fr (by rw [sumI_up _ g0, ← hw, if_pos (by omega)])
set_option maxRecDepth 100000 in
set_option maxHeartbeats 4000000 in
theorem c_X9_taken {p v : Int} (hd : 10 ≤ d) (M : MR_ h z) (hp : inI p) (hv : inI v) (k : 0 ≤ p → p < z 0 1 → 0 ≤ v → v ≤ 2 → MK_ Q h z 0 (ztaken z p v)) (k1 : ¬ (0 ≤ p ∧ p < z 0 1) → MK_ Q h z 1 0) (k2 : 0 ≤ p → p < z 0 1 → ¬ (0 ≤ v ∧ v ≤ 2) → MK_ Q h z 2 0) : Cl_ yX9_taken MX9_taken d bc bs [(2, 196), (0, p), (0, v)] nN h Q := by
  refine s_enter pn_X9 rfl (Nat.le_of_ble_eq_true rfl) (L := [(2, _), (0, _), (0, _), (9, 0), (9, 0), (9, 0)]) rfl ?_
  have hG := M.1
  have I := mr_i M
  have hT := I.2.1
  have hP := I.2.2.1
  have hN := I.2.2.2.1
  have nn := M.2.1
  refine s_aload_n dX9_taken_0 rfl ?_
  refine s_aload_n dX9_taken_1 rfl ?_
  refine s_iload_n dX9_taken_2 rfl ?_
  refine s_callV (d' := d - 1) (bc' := 0) (bs' := 0) (as := [_]) dX9_taken_3 vf_X9_290 (dd_ (by omega) (by decide)) ⟨Nat.zero_le _, Nat.zero_le _⟩ rfl rfl (Nat.le_of_ble_eq_true rfl) kl_7 rfl io_196 ?_
  refine c_X9_isPerson (by omega) M hp ?_
  refine s_if_ne (tgt := 13) dX9_taken_6 (by decide) (by first | exact hG.2 _ _ | exact b01_in _ | assumption | exact ⟨by omega, by omega⟩) (fun c1 => ?_) (fun c1 => ?_)
  · have c1 := b01_n.mp c1
    refine s_iload_n dX9_taken_13 rfl ?_
    refine s_i2l dX9_taken_14 (by first | exact hG.2 _ _ | exact b01_in _ | assumption | exact ⟨by omega, by omega⟩) ?_
    refine s_lconstz (z := 0) dX9_taken_15 rfl ?_
    refine s_ldc2 dX9_taken_16 kc_X9_415 ?_
    refine s_callS (d' := d - 1) (bc' := 0) (bs' := 0) (as := [_, _, _]) dX9_taken_19 sf_X9_143 (dd_ (by omega) (by decide)) ⟨Nat.zero_le _, Nat.zero_le _⟩ rfl rfl (Nat.le_of_ble_eq_true rfl) ?_
    refine c_X9_isIn (inI_L (by assumption)) ⟨by omega, by omega⟩ ⟨by omega, by omega⟩ ?_
    refine s_if_eq (tgt := 29) dX9_taken_22 (by decide) (by first | exact hG.2 _ _ | exact b01_in _ | assumption | exact ⟨by omega, by omega⟩) (fun c2 => ?_) (fun c2 => ?_)
    · have c2 := b01_0.mp c2
      refine s_iconst dX9_taken_29 ?_
      refine s_putiG 0 dX9_taken_30 fl_X9_98 kl_7 (by decide) rfl rfl io_196 (z := 0) rfl (by decide +kernel) hG (by first | exact hG.2 _ _ | exact b01_in _ | assumption | exact ⟨by omega, by omega⟩) (fun hG1 => ?_)
      obtain ⟨M, fm, th⟩ := mr_th M hG1
      refine s_aload_n dX9_taken_33 rfl ?_
      refine s_geti dX9_taken_34 fl_X9_98 kl_7 (by decide) rfl io_196 (z := 0) rfl ?_
      rw [th]
      refine s_if_le (tgt := 42) dX9_taken_37 (by decide) (by first | exact hG1.2 _ _ | exact hG.2 _ _ | exact b01_in _ | assumption | exact ⟨by omega, by omega⟩) (fun c3 => ?_) (fun c3 => ?_)
      · exact absurd c3 (by decide)
      · refine s_iconst dX9_taken_40 ?_
        exact s_ireturn dX9_taken_41 rfl (k2 (by omega) (by omega) (by omega) _ M fm th)
    · have c2 := b01_n.mp c2
      refine s_iconst dX9_taken_25 ?_
      refine s_goto (tgt := 30) dX9_taken_26 (by decide) ?_
      refine s_putiG 0 dX9_taken_30 fl_X9_98 kl_7 (by decide) rfl rfl io_196 (z := 0) rfl (by decide +kernel) hG (by first | exact hG.2 _ _ | exact b01_in _ | assumption | exact ⟨by omega, by omega⟩) (fun hG2 => ?_)
      obtain ⟨M, fm, th⟩ := mr_th M hG2
      refine s_aload_n dX9_taken_33 rfl ?_
      refine s_geti dX9_taken_34 fl_X9_98 kl_7 (by decide) rfl io_196 (z := 0) rfl ?_
      rw [th]
      refine s_if_le (tgt := 42) dX9_taken_37 (by decide) (by first | exact hG2.2 _ _ | exact hG.2 _ _ | exact b01_in _ | assumption | exact ⟨by omega, by omega⟩) (fun c4 => ?_) (fun c4 => ?_)
      · refine s_aload_n dX9_taken_42 rfl ?_
        refine s_iload_n dX9_taken_43 rfl ?_
        refine s_callV (d' := d - 1) (bc' := 0) (bs' := 0) (as := [_]) dX9_taken_44 vf_X9_433 (dd_ (by omega) (by decide)) ⟨Nat.zero_le _, Nat.zero_le _⟩ rfl rfl (Nat.le_of_ble_eq_true rfl) kl_7 rfl io_196 ?_
        refine c_X9_takesAllOf (by omega) M (by omega) (by omega) (fun hhG3 ghG3 fhG3 RhG3 => ?_)
        have hG3 := ghG3
        have M := sc_M M ghG3 fhG3
        have fm := fm.tr (sc_fm fhG3)
        have th := (sc_0 fhG3).trans th
        have R9 := RhG3
        refine s_istore_n dX9_taken_47 (by decide) rfl (L' := [_, _, _, _, _, _]) rfl ?_
        refine s_iload_n dX9_taken_48 rfl ?_
        refine s_iconst dX9_taken_49 ?_
        refine s_icmp_ge (tgt := 67) dX9_taken_50 (by decide) (by first | exact hG3.2 _ _ | exact hG.2 _ _ | exact b01_in _ | assumption | exact ⟨by omega, by omega⟩) (by first | exact hG3.2 _ _ | exact hG.2 _ _ | exact b01_in _ | assumption | exact ⟨by omega, by omega⟩) (fun c5 => ?_) (fun c5 => ?_)
        · refine s_iconst dX9_taken_67 ?_
          refine s_istore dX9_taken_68 (by decide) rfl (L' := [_, _, _, _, _, _]) rfl ?_
          refine s_iconst dX9_taken_70 ?_
          refine s_istore dX9_taken_71 (by decide) rfl (L' := [_, _, _, _, _, _]) rfl ?_
          refine lp_X9_taken (by omega) M R9 (by omega) (by omega) (fun h9 g9 f9 => ?_) (z 0 2).toNat 0 0 _ (Int.le_refl _) (by omega) hG3 (fun _ _ _ _ => rfl) rfl
          have k9 := k (by omega) (by omega) (by omega) (by omega) h9 (sc_M M g9 (ft_sc f9)) (fm.tr (sc_fm (ft_sc f9))) ((sc_0 (ft_sc f9)).trans th)
          unfold ztaken at k9
          rw [if_neg (by omega), if_neg (by omega)] at k9
          exact k9
        · refine s_iload_n dX9_taken_53 rfl ?_
          refine s_if_ne (tgt := 61) dX9_taken_54 (by decide) (by first | exact hG3.2 _ _ | exact hG.2 _ _ | exact b01_in _ | assumption | exact ⟨by omega, by omega⟩) (fun c6 => ?_) (fun c6 => ?_)
          · refine s_aload_n dX9_taken_61 rfl ?_
            refine s_iload_n dX9_taken_62 rfl ?_
            refine s_callV (d' := d - 1) (bc' := 0) (bs' := 0) (as := [_]) dX9_taken_63 vf_X9_430 (dd_ (by omega) (by decide)) ⟨Nat.zero_le _, Nat.zero_le _⟩ rfl rfl (Nat.le_of_ble_eq_true rfl) kl_7 rfl io_196 ?_
            refine c_X9_intestateOf (by omega) M R9 (by omega) (by omega) (fun hhG4 ghG4 fhG4 => ?_)
            have hG4 := ghG4
            have M := sc_M M ghG4 (ft_sc fhG4)
            have fm := fm.tr (sc_fm (ft_sc fhG4))
            have th := (sc_0 (ft_sc fhG4)).trans th
            exact s_ireturn dX9_taken_66 rfl (q_val (by unfold ztaken; rw [if_neg (by omega), if_pos (by omega)]) (k (by omega) (by omega) (by omega) (by omega) _ M fm th))
          · refine s_iload_n dX9_taken_57 rfl ?_
            refine s_goto (tgt := 66) dX9_taken_58 (by decide) ?_
            exact s_ireturn dX9_taken_66 rfl (q_val (by unfold ztaken; rw [if_pos (by omega)]) (k (by omega) (by omega) (by omega) (by omega) _ M fm th))
      · exact absurd c4 (by decide)
  · have c1 := b01_0.mp c1
    refine s_iconst dX9_taken_9 ?_
    refine s_goto (tgt := 30) dX9_taken_10 (by decide) ?_
    refine s_putiG 0 dX9_taken_30 fl_X9_98 kl_7 (by decide) rfl rfl io_196 (z := 0) rfl (by decide +kernel) hG (by first | exact hG.2 _ _ | exact b01_in _ | assumption | exact ⟨by omega, by omega⟩) (fun hG5 => ?_)
    obtain ⟨M, fm, th⟩ := mr_th M hG5
    refine s_aload_n dX9_taken_33 rfl ?_
    refine s_geti dX9_taken_34 fl_X9_98 kl_7 (by decide) rfl io_196 (z := 0) rfl ?_
    rw [th]
    refine s_if_le (tgt := 42) dX9_taken_37 (by decide) (by first | exact hG5.2 _ _ | exact hG.2 _ _ | exact b01_in _ | assumption | exact ⟨by omega, by omega⟩) (fun c7 => ?_) (fun c7 => ?_)
    · exact absurd c7 (by decide)
    · refine s_iconst dX9_taken_40 ?_
      exact s_ireturn dX9_taken_41 rfl (k1 (by omega) _ M fm th)
set_option maxRecDepth 100000 in
set_option maxHeartbeats 4000000 in
theorem lp_X9_laysStock {x : Int} {F : Int → Int} (hd : 1 ≤ d) (M0 : MR_ h0 z) (x0 : 0 ≤ x) (x1 : x < z 0 1) (k : ∀ h : PH, G h → (∀ a b : Int, ¬ a = 196 + 17 → h a b = h0 a b) → (∀ j : Int, 0 ≤ j → j < z 0 1 → h (196 + 17) j = F j ∧ (F j = 0 ∨ F j = 1)) → Q.1 none nN h) : ∀ (m : Nat) (p : Int) (S : Int → Int) (h : PH), (0 ≤ p) → (p + m = z 0 1) → (G h) → (∀ a b : Int, ¬ a = 196 + 17 → h a b = h0 a b) → (∀ j : Int, 0 ≤ j → j < p → h (196 + 17) j = S j) → (∀ j : Int, p ≤ j → S j = if j = x then 1 else 0) → (∀ j : Int, S j = 0 ∨ S j = 1) → (∀ j : Int, j < x → S j = 0) → (∀ j : Int, 0 ≤ j → j < z 0 1 → sk_ (z 2) (zdd z) x (z 0 1 - max p x).toNat (max p x) S j = F j) → S_ MX9_laysStock d bc bs Q 2 [(2, 196), (0, x), (0, p), (9, 0)] [] nN h := by
  intro m
  induction m with
  | zero =>
    intro p S h p0 pm gG fr H hS hS1 hSx hF
    have hG := gG
    have M := sc_M M0 gG (fun a b c _ => fr a b (by omega))
    have I := mr_i M
    have hT := I.2.1
    have hP := I.2.2.1
    have hN := I.2.2.2.1
    have nn := M.2.1
    have sp : 0 ≤ z 2 p → z 2 p < p → (h (196 + 17) (z 2 p) = S (z 2 p) ∧ (S (z 2 p) = 0 ∨ S (z 2 p) = 1)) := fun a b => ⟨H _ a b, hS1 _⟩
    refine s_iload_n dX9_laysStock_2 rfl ?_
    refine s_aload_n dX9_laysStock_3 rfl ?_
    refine s_geti dX9_laysStock_4 fl_X9_281 kl_7 (by decide) rfl io_196 (z := 6) rfl ?_
    refine s_icmp_ge (tgt := 84) dX9_laysStock_7 (by decide) (by first | exact hG.2 _ _ | exact b01_in _ | assumption | exact ⟨by omega, by omega⟩) (by first | exact hG.2 _ _ | exact b01_in _ | assumption | exact ⟨by omega, by omega⟩) (fun c1 => ?_) (fun c1 => ?_)
    · refine s_return dX9_laysStock_84 rfl (k h gG fr (fun j j0 j1 => ?_))
      have e := hF j j0 j1
      rw [show (z 0 1 - max p x).toNat = 0 by omega, sk_] at e
      rw [H j j0 (by omega), ← e]
      exact ⟨rfl, hS1 j⟩
    · exact absurd c1 (by omega)
  | succ m ih =>
    intro p S h p0 pm gG fr H hS hS1 hSx hF
    have hG := gG
    have M := sc_M M0 gG (fun a b c _ => fr a b (by omega))
    have I := mr_i M
    have hT := I.2.1
    have hP := I.2.2.1
    have hN := I.2.2.2.1
    have nn := M.2.1
    have sp : 0 ≤ z 2 p → z 2 p < p → (h (196 + 17) (z 2 p) = S (z 2 p) ∧ (S (z 2 p) = 0 ∨ S (z 2 p) = 1)) := fun a b => ⟨H _ a b, hS1 _⟩
    refine s_iload_n dX9_laysStock_2 rfl ?_
    refine s_aload_n dX9_laysStock_3 rfl ?_
    refine s_geti dX9_laysStock_4 fl_X9_281 kl_7 (by decide) rfl io_196 (z := 6) rfl ?_
    refine s_icmp_ge (tgt := 84) dX9_laysStock_7 (by decide) (by first | exact hG.2 _ _ | exact b01_in _ | assumption | exact ⟨by omega, by omega⟩) (by first | exact hG.2 _ _ | exact b01_in _ | assumption | exact ⟨by omega, by omega⟩) (fun c1 => ?_) (fun c1 => ?_)
    · exact absurd c1 (by omega)
    · refine s_iload_n dX9_laysStock_10 rfl ?_
      refine s_iload_n dX9_laysStock_11 rfl ?_
      refine s_icmp_le (tgt := 56) dX9_laysStock_12 (by decide) (by first | exact hG.2 _ _ | exact b01_in _ | assumption | exact ⟨by omega, by omega⟩) (by first | exact hG.2 _ _ | exact b01_in _ | assumption | exact ⟨by omega, by omega⟩) (fun c2 => ?_) (fun c2 => ?_)
      · refine s_iconst dX9_laysStock_56 ?_
        refine s_istore_n dX9_laysStock_57 (by decide) rfl (L' := [_, _, _, _]) rfl ?_
        refine s_aload_n dX9_laysStock_58 rfl ?_
        refine s_getr dX9_laysStock_59 fl_X9_64 kl_7 (by decide) rfl io_196 (z := 29) rfl (rf_7_29 hG.1 io_196) (rk_7_29 io_196).1 ?_
        refine s_iload_n dX9_laysStock_62 rfl ?_
        refine s_iload_n dX9_laysStock_63 rfl ?_
        refine s_iload_n dX9_laysStock_64 rfl ?_
        refine s_icmp_eq (tgt := 72) dX9_laysStock_65 (by decide) (by first | exact hG.2 _ _ | exact b01_in _ | assumption | exact ⟨by omega, by omega⟩) (by first | exact hG.2 _ _ | exact b01_in _ | assumption | exact ⟨by omega, by omega⟩) (fun c3 => ?_) (fun c3 => ?_)
        · refine s_iconst dX9_laysStock_72 ?_
          refine s_goto (tgt := 77) dX9_laysStock_73 (by decide) ?_
          refine s_bastore2G dX9_laysStock_77 (rk_7_29 io_196) (by omega) (by omega) hG (by first | exact Or.inl rfl | exact Or.inr rfl | assumption | omega) (fun hG1 => ?_)
          refine s_iinc dX9_laysStock_78 rfl (by decide) rfl (L' := [_, _, _, _]) rfl ?_
          refine s_goto (tgt := 2) dX9_laysStock_81 (by decide) ?_
          refine s_fg (L' := [(2, 196), (0, x), (0, p + 1), (9, 0)]) ⟨Or.inr rfl, Or.inr rfl, Or.inr rfl, Or.inl rfl, trivial⟩ ?_
          refine ih (p + 1) S _ (by omega) (by omega) hG1 (fun a b c => by rw [hs_ne _ (by omega)]; exact fr a b c) (fun j j0 j1 => ?_) (fun j j0 => hS j (by omega)) hS1 hSx (fun j j0 j1 => ?_)
          · by_cases c : j = p
            · rw [c, hs_eq, hS p (Int.le_refl _)]
              first | rw [if_pos (by omega)] | rw [if_neg (by omega)]
            · rw [hs_ne _ (by omega)]
              exact H j j0 (by omega)
          · rw [← hF j j0 j1]
            rcases (by omega : p < x ∨ x ≤ p) with c | c
            · rw [show max (p + 1) x = x by omega, show max p x = x by omega]
            · rw [show max (p + 1) x = p + 1 by omega, show max p x = p by omega, show (z 0 1 - p).toNat = (z 0 1 - (p + 1)).toNat + 1 by omega, sk_, if_neg]
              intro q; have wq := I.2.2.2.2.1 p p0 (by omega); omega
        · refine s_iload_n dX9_laysStock_68 rfl ?_
          refine s_if_eq (tgt := 76) dX9_laysStock_69 (by decide) (by first | exact hG.2 _ _ | exact b01_in _ | assumption | exact ⟨by omega, by omega⟩) (fun c4 => ?_) (fun c4 => ?_)
          · refine s_iconst dX9_laysStock_76 ?_
            refine s_bastore2G dX9_laysStock_77 (rk_7_29 io_196) (by omega) (by omega) hG (by first | exact Or.inl rfl | exact Or.inr rfl | assumption | omega) (fun hG2 => ?_)
            refine s_iinc dX9_laysStock_78 rfl (by decide) rfl (L' := [_, _, _, _]) rfl ?_
            refine s_goto (tgt := 2) dX9_laysStock_81 (by decide) ?_
            refine s_fg (L' := [(2, 196), (0, x), (0, p + 1), (9, 0)]) ⟨Or.inr rfl, Or.inr rfl, Or.inr rfl, Or.inl rfl, trivial⟩ ?_
            refine ih (p + 1) S _ (by omega) (by omega) hG2 (fun a b c => by rw [hs_ne _ (by omega)]; exact fr a b c) (fun j j0 j1 => ?_) (fun j j0 => hS j (by omega)) hS1 hSx (fun j j0 j1 => ?_)
            · by_cases c : j = p
              · rw [c, hs_eq, hS p (Int.le_refl _)]
                first | rw [if_pos (by omega)] | rw [if_neg (by omega)]
              · rw [hs_ne _ (by omega)]
                exact H j j0 (by omega)
            · rw [← hF j j0 j1]
              rcases (by omega : p < x ∨ x ≤ p) with c | c
              · rw [show max (p + 1) x = x by omega, show max p x = x by omega]
              · rw [show max (p + 1) x = p + 1 by omega, show max p x = p by omega, show (z 0 1 - p).toNat = (z 0 1 - (p + 1)).toNat + 1 by omega, sk_, if_neg]
                intro q; have wq := I.2.2.2.2.1 p p0 (by omega); omega
          · refine s_iconst dX9_laysStock_72 ?_
            refine s_goto (tgt := 77) dX9_laysStock_73 (by decide) ?_
            refine s_bastore2G dX9_laysStock_77 (rk_7_29 io_196) (by omega) (by omega) hG (by first | exact Or.inl rfl | exact Or.inr rfl | assumption | omega) (fun hG3 => ?_)
            refine s_iinc dX9_laysStock_78 rfl (by decide) rfl (L' := [_, _, _, _]) rfl ?_
            refine s_goto (tgt := 2) dX9_laysStock_81 (by decide) ?_
            refine s_fg (L' := [(2, 196), (0, x), (0, p + 1), (9, 0)]) ⟨Or.inr rfl, Or.inr rfl, Or.inr rfl, Or.inl rfl, trivial⟩ ?_
            refine ih (p + 1) S _ (by omega) (by omega) hG3 (fun a b c => by rw [hs_ne _ (by omega)]; exact fr a b c) (fun j j0 j1 => ?_) (fun j j0 => hS j (by omega)) hS1 hSx (fun j j0 j1 => ?_)
            · by_cases c : j = p
              · rw [c, hs_eq, hS p (Int.le_refl _)]
                first | rw [if_pos (by omega)] | rw [if_neg (by omega)]
              · rw [hs_ne _ (by omega)]
                exact H j j0 (by omega)
            · rw [← hF j j0 j1]
              rcases (by omega : p < x ∨ x ≤ p) with c | c
              · rw [show max (p + 1) x = x by omega, show max p x = x by omega]
              · rw [show max (p + 1) x = p + 1 by omega, show max p x = p by omega, show (z 0 1 - p).toNat = (z 0 1 - (p + 1)).toNat + 1 by omega, sk_, if_neg]
                intro q; have wq := I.2.2.2.2.1 p p0 (by omega); omega
      · refine s_aload_n dX9_laysStock_15 rfl ?_
        refine s_getr dX9_laysStock_16 fl_X9_25 kl_7 (by decide) rfl io_196 (z := 10) rfl (rf_7_10 hG.1 io_196) (rk_7_10 io_196).1 ?_
        refine s_iload_n dX9_laysStock_19 rfl ?_
        refine s_iaload dX9_laysStock_20 (rk_7_10 io_196) (by omega) (by omega) ?_
        have pp := (mr_c M p p0 (by omega)).1
        have wp := (I.2.2.2.2.1 p p0 (by omega)).1
        rw [pp]
        refine s_iconst dX9_laysStock_21 ?_
        refine s_icmp_eq (tgt := 56) dX9_laysStock_22 (by decide) (by first | exact hG.2 _ _ | exact b01_in _ | assumption | exact ⟨by omega, by omega⟩) (by first | exact hG.2 _ _ | exact b01_in _ | assumption | exact ⟨by omega, by omega⟩) (fun c5 => ?_) (fun c5 => ?_)
        · refine s_iconst dX9_laysStock_56 ?_
          refine s_istore_n dX9_laysStock_57 (by decide) rfl (L' := [_, _, _, _]) rfl ?_
          refine s_aload_n dX9_laysStock_58 rfl ?_
          refine s_getr dX9_laysStock_59 fl_X9_64 kl_7 (by decide) rfl io_196 (z := 29) rfl (rf_7_29 hG.1 io_196) (rk_7_29 io_196).1 ?_
          refine s_iload_n dX9_laysStock_62 rfl ?_
          refine s_iload_n dX9_laysStock_63 rfl ?_
          refine s_iload_n dX9_laysStock_64 rfl ?_
          refine s_icmp_eq (tgt := 72) dX9_laysStock_65 (by decide) (by first | exact hG.2 _ _ | exact b01_in _ | assumption | exact ⟨by omega, by omega⟩) (by first | exact hG.2 _ _ | exact b01_in _ | assumption | exact ⟨by omega, by omega⟩) (fun c6 => ?_) (fun c6 => ?_)
          · refine s_iconst dX9_laysStock_72 ?_
            refine s_goto (tgt := 77) dX9_laysStock_73 (by decide) ?_
            refine s_bastore2G dX9_laysStock_77 (rk_7_29 io_196) (by omega) (by omega) hG (by first | exact Or.inl rfl | exact Or.inr rfl | assumption | omega) (fun hG4 => ?_)
            refine s_iinc dX9_laysStock_78 rfl (by decide) rfl (L' := [_, _, _, _]) rfl ?_
            refine s_goto (tgt := 2) dX9_laysStock_81 (by decide) ?_
            refine s_fg (L' := [(2, 196), (0, x), (0, p + 1), (9, 0)]) ⟨Or.inr rfl, Or.inr rfl, Or.inr rfl, Or.inl rfl, trivial⟩ ?_
            refine ih (p + 1) S _ (by omega) (by omega) hG4 (fun a b c => by rw [hs_ne _ (by omega)]; exact fr a b c) (fun j j0 j1 => ?_) (fun j j0 => hS j (by omega)) hS1 hSx (fun j j0 j1 => ?_)
            · by_cases c : j = p
              · rw [c, hs_eq, hS p (Int.le_refl _)]
                first | rw [if_pos (by omega)] | rw [if_neg (by omega)]
              · rw [hs_ne _ (by omega)]
                exact H j j0 (by omega)
            · rw [← hF j j0 j1]
              rcases (by omega : p < x ∨ x ≤ p) with c | c
              · rw [show max (p + 1) x = x by omega, show max p x = x by omega]
              · rw [show max (p + 1) x = p + 1 by omega, show max p x = p by omega, show (z 0 1 - p).toNat = (z 0 1 - (p + 1)).toNat + 1 by omega, sk_, if_neg]
                intro q; have wq := I.2.2.2.2.1 p p0 (by omega); omega
          · refine s_iload_n dX9_laysStock_68 rfl ?_
            refine s_if_eq (tgt := 76) dX9_laysStock_69 (by decide) (by first | exact hG.2 _ _ | exact b01_in _ | assumption | exact ⟨by omega, by omega⟩) (fun c7 => ?_) (fun c7 => ?_)
            · refine s_iconst dX9_laysStock_76 ?_
              refine s_bastore2G dX9_laysStock_77 (rk_7_29 io_196) (by omega) (by omega) hG (by first | exact Or.inl rfl | exact Or.inr rfl | assumption | omega) (fun hG5 => ?_)
              refine s_iinc dX9_laysStock_78 rfl (by decide) rfl (L' := [_, _, _, _]) rfl ?_
              refine s_goto (tgt := 2) dX9_laysStock_81 (by decide) ?_
              refine s_fg (L' := [(2, 196), (0, x), (0, p + 1), (9, 0)]) ⟨Or.inr rfl, Or.inr rfl, Or.inr rfl, Or.inl rfl, trivial⟩ ?_
              refine ih (p + 1) S _ (by omega) (by omega) hG5 (fun a b c => by rw [hs_ne _ (by omega)]; exact fr a b c) (fun j j0 j1 => ?_) (fun j j0 => hS j (by omega)) hS1 hSx (fun j j0 j1 => ?_)
              · by_cases c : j = p
                · rw [c, hs_eq, hS p (Int.le_refl _)]
                  first | rw [if_pos (by omega)] | rw [if_neg (by omega)]
                · rw [hs_ne _ (by omega)]
                  exact H j j0 (by omega)
              · rw [← hF j j0 j1]
                rcases (by omega : p < x ∨ x ≤ p) with c | c
                · rw [show max (p + 1) x = x by omega, show max p x = x by omega]
                · rw [show max (p + 1) x = p + 1 by omega, show max p x = p by omega, show (z 0 1 - p).toNat = (z 0 1 - (p + 1)).toNat + 1 by omega, sk_, if_neg]
                  intro q; have wq := I.2.2.2.2.1 p p0 (by omega); omega
            · refine s_iconst dX9_laysStock_72 ?_
              refine s_goto (tgt := 77) dX9_laysStock_73 (by decide) ?_
              refine s_bastore2G dX9_laysStock_77 (rk_7_29 io_196) (by omega) (by omega) hG (by first | exact Or.inl rfl | exact Or.inr rfl | assumption | omega) (fun hG6 => ?_)
              refine s_iinc dX9_laysStock_78 rfl (by decide) rfl (L' := [_, _, _, _]) rfl ?_
              refine s_goto (tgt := 2) dX9_laysStock_81 (by decide) ?_
              refine s_fg (L' := [(2, 196), (0, x), (0, p + 1), (9, 0)]) ⟨Or.inr rfl, Or.inr rfl, Or.inr rfl, Or.inl rfl, trivial⟩ ?_
              refine ih (p + 1) S _ (by omega) (by omega) hG6 (fun a b c => by rw [hs_ne _ (by omega)]; exact fr a b c) (fun j j0 j1 => ?_) (fun j j0 => hS j (by omega)) hS1 hSx (fun j j0 j1 => ?_)
              · by_cases c : j = p
                · rw [c, hs_eq, hS p (Int.le_refl _)]
                  first | rw [if_pos (by omega)] | rw [if_neg (by omega)]
                · rw [hs_ne _ (by omega)]
                  exact H j j0 (by omega)
              · rw [← hF j j0 j1]
                rcases (by omega : p < x ∨ x ≤ p) with c | c
                · rw [show max (p + 1) x = x by omega, show max p x = x by omega]
                · rw [show max (p + 1) x = p + 1 by omega, show max p x = p by omega, show (z 0 1 - p).toNat = (z 0 1 - (p + 1)).toNat + 1 by omega, sk_, if_neg]
                  intro q; have wq := I.2.2.2.2.1 p p0 (by omega); omega
        · refine s_aload_n dX9_laysStock_25 rfl ?_
          refine s_getr dX9_laysStock_26 fl_X9_64 kl_7 (by decide) rfl io_196 (z := 29) rfl (rf_7_29 hG.1 io_196) (rk_7_29 io_196).1 ?_
          refine s_aload_n dX9_laysStock_29 rfl ?_
          refine s_getr dX9_laysStock_30 fl_X9_25 kl_7 (by decide) rfl io_196 (z := 10) rfl (rf_7_10 hG.1 io_196) (rk_7_10 io_196).1 ?_
          refine s_iload_n dX9_laysStock_33 rfl ?_
          refine s_iaload dX9_laysStock_34 (rk_7_10 io_196) (by omega) (by omega) ?_
          rw [pp]
          refine s_baload2 dX9_laysStock_35 (rk_7_29 io_196) (by omega) (by omega) ?_
          have sp := sp (by omega) (by omega)
          rw [sp.1]
          refine s_if_eq (tgt := 56) dX9_laysStock_36 (by decide) (by first | exact hG.2 _ _ | exact b01_in _ | assumption | exact ⟨by omega, by omega⟩) (fun c8 => ?_) (fun c8 => ?_)
          · refine s_iconst dX9_laysStock_56 ?_
            refine s_istore_n dX9_laysStock_57 (by decide) rfl (L' := [_, _, _, _]) rfl ?_
            refine s_aload_n dX9_laysStock_58 rfl ?_
            refine s_getr dX9_laysStock_59 fl_X9_64 kl_7 (by decide) rfl io_196 (z := 29) rfl (rf_7_29 hG.1 io_196) (rk_7_29 io_196).1 ?_
            refine s_iload_n dX9_laysStock_62 rfl ?_
            refine s_iload_n dX9_laysStock_63 rfl ?_
            refine s_iload_n dX9_laysStock_64 rfl ?_
            refine s_icmp_eq (tgt := 72) dX9_laysStock_65 (by decide) (by first | exact hG.2 _ _ | exact b01_in _ | assumption | exact ⟨by omega, by omega⟩) (by first | exact hG.2 _ _ | exact b01_in _ | assumption | exact ⟨by omega, by omega⟩) (fun c9 => ?_) (fun c9 => ?_)
            · refine s_iconst dX9_laysStock_72 ?_
              refine s_goto (tgt := 77) dX9_laysStock_73 (by decide) ?_
              refine s_bastore2G dX9_laysStock_77 (rk_7_29 io_196) (by omega) (by omega) hG (by first | exact Or.inl rfl | exact Or.inr rfl | assumption | omega) (fun hG7 => ?_)
              refine s_iinc dX9_laysStock_78 rfl (by decide) rfl (L' := [_, _, _, _]) rfl ?_
              refine s_goto (tgt := 2) dX9_laysStock_81 (by decide) ?_
              refine s_fg (L' := [(2, 196), (0, x), (0, p + 1), (9, 0)]) ⟨Or.inr rfl, Or.inr rfl, Or.inr rfl, Or.inl rfl, trivial⟩ ?_
              refine ih (p + 1) S _ (by omega) (by omega) hG7 (fun a b c => by rw [hs_ne _ (by omega)]; exact fr a b c) (fun j j0 j1 => ?_) (fun j j0 => hS j (by omega)) hS1 hSx (fun j j0 j1 => ?_)
              · by_cases c : j = p
                · rw [c, hs_eq, hS p (Int.le_refl _)]
                  first | rw [if_pos (by omega)] | rw [if_neg (by omega)]
                · rw [hs_ne _ (by omega)]
                  exact H j j0 (by omega)
              · rw [← hF j j0 j1]
                rcases (by omega : p < x ∨ x ≤ p) with c | c
                · rw [show max (p + 1) x = x by omega, show max p x = x by omega]
                · rw [show max (p + 1) x = p + 1 by omega, show max p x = p by omega, show (z 0 1 - p).toNat = (z 0 1 - (p + 1)).toNat + 1 by omega, sk_, if_neg]
                  intro q; have wq := I.2.2.2.2.1 p p0 (by omega); omega
            · refine s_iload_n dX9_laysStock_68 rfl ?_
              refine s_if_eq (tgt := 76) dX9_laysStock_69 (by decide) (by first | exact hG.2 _ _ | exact b01_in _ | assumption | exact ⟨by omega, by omega⟩) (fun c10 => ?_) (fun c10 => ?_)
              · refine s_iconst dX9_laysStock_76 ?_
                refine s_bastore2G dX9_laysStock_77 (rk_7_29 io_196) (by omega) (by omega) hG (by first | exact Or.inl rfl | exact Or.inr rfl | assumption | omega) (fun hG8 => ?_)
                refine s_iinc dX9_laysStock_78 rfl (by decide) rfl (L' := [_, _, _, _]) rfl ?_
                refine s_goto (tgt := 2) dX9_laysStock_81 (by decide) ?_
                refine s_fg (L' := [(2, 196), (0, x), (0, p + 1), (9, 0)]) ⟨Or.inr rfl, Or.inr rfl, Or.inr rfl, Or.inl rfl, trivial⟩ ?_
                refine ih (p + 1) S _ (by omega) (by omega) hG8 (fun a b c => by rw [hs_ne _ (by omega)]; exact fr a b c) (fun j j0 j1 => ?_) (fun j j0 => hS j (by omega)) hS1 hSx (fun j j0 j1 => ?_)
                · by_cases c : j = p
                  · rw [c, hs_eq, hS p (Int.le_refl _)]
                    first | rw [if_pos (by omega)] | rw [if_neg (by omega)]
                  · rw [hs_ne _ (by omega)]
                    exact H j j0 (by omega)
                · rw [← hF j j0 j1]
                  rcases (by omega : p < x ∨ x ≤ p) with c | c
                  · rw [show max (p + 1) x = x by omega, show max p x = x by omega]
                  · rw [show max (p + 1) x = p + 1 by omega, show max p x = p by omega, show (z 0 1 - p).toNat = (z 0 1 - (p + 1)).toNat + 1 by omega, sk_, if_neg]
                    intro q; have wq := I.2.2.2.2.1 p p0 (by omega); omega
              · refine s_iconst dX9_laysStock_72 ?_
                refine s_goto (tgt := 77) dX9_laysStock_73 (by decide) ?_
                refine s_bastore2G dX9_laysStock_77 (rk_7_29 io_196) (by omega) (by omega) hG (by first | exact Or.inl rfl | exact Or.inr rfl | assumption | omega) (fun hG9 => ?_)
                refine s_iinc dX9_laysStock_78 rfl (by decide) rfl (L' := [_, _, _, _]) rfl ?_
                refine s_goto (tgt := 2) dX9_laysStock_81 (by decide) ?_
                refine s_fg (L' := [(2, 196), (0, x), (0, p + 1), (9, 0)]) ⟨Or.inr rfl, Or.inr rfl, Or.inr rfl, Or.inl rfl, trivial⟩ ?_
                refine ih (p + 1) S _ (by omega) (by omega) hG9 (fun a b c => by rw [hs_ne _ (by omega)]; exact fr a b c) (fun j j0 j1 => ?_) (fun j j0 => hS j (by omega)) hS1 hSx (fun j j0 j1 => ?_)
                · by_cases c : j = p
                  · rw [c, hs_eq, hS p (Int.le_refl _)]
                    first | rw [if_pos (by omega)] | rw [if_neg (by omega)]
                  · rw [hs_ne _ (by omega)]
                    exact H j j0 (by omega)
                · rw [← hF j j0 j1]
                  rcases (by omega : p < x ∨ x ≤ p) with c | c
                  · rw [show max (p + 1) x = x by omega, show max p x = x by omega]
                  · rw [show max (p + 1) x = p + 1 by omega, show max p x = p by omega, show (z 0 1 - p).toNat = (z 0 1 - (p + 1)).toNat + 1 by omega, sk_, if_neg]
                    intro q; have wq := I.2.2.2.2.1 p p0 (by omega); omega
          · refine s_aload_n dX9_laysStock_39 rfl ?_
            refine s_aload_n dX9_laysStock_40 rfl ?_
            refine s_getr dX9_laysStock_41 fl_X9_25 kl_7 (by decide) rfl io_196 (z := 10) rfl (rf_7_10 hG.1 io_196) (rk_7_10 io_196).1 ?_
            refine s_iload_n dX9_laysStock_44 rfl ?_
            refine s_iaload dX9_laysStock_45 (rk_7_10 io_196) (by omega) (by omega) ?_
            rw [pp]
            refine s_callV (d' := d - 1) (bc' := 0) (bs' := 0) (as := [_]) dX9_laysStock_46 vf_X9_308 (dd_ (by omega) (by decide)) ⟨Nat.zero_le _, Nat.zero_le _⟩ rfl rfl (Nat.le_of_ble_eq_true rfl) kl_7 rfl io_196 ?_
            refine c_X9_isDead M (by omega) (by omega) ?_
            refine s_if_eq (tgt := 56) dX9_laysStock_49 (by decide) (by first | exact hG.2 _ _ | exact b01_in _ | assumption | exact ⟨by omega, by omega⟩) (fun c11 => ?_) (fun c11 => ?_)
            · have c11 := b01_0.mp c11
              refine s_iconst dX9_laysStock_56 ?_
              refine s_istore_n dX9_laysStock_57 (by decide) rfl (L' := [_, _, _, _]) rfl ?_
              refine s_aload_n dX9_laysStock_58 rfl ?_
              refine s_getr dX9_laysStock_59 fl_X9_64 kl_7 (by decide) rfl io_196 (z := 29) rfl (rf_7_29 hG.1 io_196) (rk_7_29 io_196).1 ?_
              refine s_iload_n dX9_laysStock_62 rfl ?_
              refine s_iload_n dX9_laysStock_63 rfl ?_
              refine s_iload_n dX9_laysStock_64 rfl ?_
              refine s_icmp_eq (tgt := 72) dX9_laysStock_65 (by decide) (by first | exact hG.2 _ _ | exact b01_in _ | assumption | exact ⟨by omega, by omega⟩) (by first | exact hG.2 _ _ | exact b01_in _ | assumption | exact ⟨by omega, by omega⟩) (fun c12 => ?_) (fun c12 => ?_)
              · refine s_iconst dX9_laysStock_72 ?_
                refine s_goto (tgt := 77) dX9_laysStock_73 (by decide) ?_
                refine s_bastore2G dX9_laysStock_77 (rk_7_29 io_196) (by omega) (by omega) hG (by first | exact Or.inl rfl | exact Or.inr rfl | assumption | omega) (fun hG10 => ?_)
                refine s_iinc dX9_laysStock_78 rfl (by decide) rfl (L' := [_, _, _, _]) rfl ?_
                refine s_goto (tgt := 2) dX9_laysStock_81 (by decide) ?_
                refine s_fg (L' := [(2, 196), (0, x), (0, p + 1), (9, 0)]) ⟨Or.inr rfl, Or.inr rfl, Or.inr rfl, Or.inl rfl, trivial⟩ ?_
                refine ih (p + 1) S _ (by omega) (by omega) hG10 (fun a b c => by rw [hs_ne _ (by omega)]; exact fr a b c) (fun j j0 j1 => ?_) (fun j j0 => hS j (by omega)) hS1 hSx (fun j j0 j1 => ?_)
                · by_cases c : j = p
                  · rw [c, hs_eq, hS p (Int.le_refl _)]
                    first | rw [if_pos (by omega)] | rw [if_neg (by omega)]
                  · rw [hs_ne _ (by omega)]
                    exact H j j0 (by omega)
                · rw [← hF j j0 j1]
                  rcases (by omega : p < x ∨ x ≤ p) with c | c
                  · rw [show max (p + 1) x = x by omega, show max p x = x by omega]
                  · rw [show max (p + 1) x = p + 1 by omega, show max p x = p by omega, show (z 0 1 - p).toNat = (z 0 1 - (p + 1)).toNat + 1 by omega, sk_, if_neg]
                    intro q; have wq := I.2.2.2.2.1 p p0 (by omega); omega
              · refine s_iload_n dX9_laysStock_68 rfl ?_
                refine s_if_eq (tgt := 76) dX9_laysStock_69 (by decide) (by first | exact hG.2 _ _ | exact b01_in _ | assumption | exact ⟨by omega, by omega⟩) (fun c13 => ?_) (fun c13 => ?_)
                · refine s_iconst dX9_laysStock_76 ?_
                  refine s_bastore2G dX9_laysStock_77 (rk_7_29 io_196) (by omega) (by omega) hG (by first | exact Or.inl rfl | exact Or.inr rfl | assumption | omega) (fun hG11 => ?_)
                  refine s_iinc dX9_laysStock_78 rfl (by decide) rfl (L' := [_, _, _, _]) rfl ?_
                  refine s_goto (tgt := 2) dX9_laysStock_81 (by decide) ?_
                  refine s_fg (L' := [(2, 196), (0, x), (0, p + 1), (9, 0)]) ⟨Or.inr rfl, Or.inr rfl, Or.inr rfl, Or.inl rfl, trivial⟩ ?_
                  refine ih (p + 1) S _ (by omega) (by omega) hG11 (fun a b c => by rw [hs_ne _ (by omega)]; exact fr a b c) (fun j j0 j1 => ?_) (fun j j0 => hS j (by omega)) hS1 hSx (fun j j0 j1 => ?_)
                  · by_cases c : j = p
                    · rw [c, hs_eq, hS p (Int.le_refl _)]
                      first | rw [if_pos (by omega)] | rw [if_neg (by omega)]
                    · rw [hs_ne _ (by omega)]
                      exact H j j0 (by omega)
                  · rw [← hF j j0 j1]
                    rcases (by omega : p < x ∨ x ≤ p) with c | c
                    · rw [show max (p + 1) x = x by omega, show max p x = x by omega]
                    · rw [show max (p + 1) x = p + 1 by omega, show max p x = p by omega, show (z 0 1 - p).toNat = (z 0 1 - (p + 1)).toNat + 1 by omega, sk_, if_neg]
                      intro q; have wq := I.2.2.2.2.1 p p0 (by omega); omega
                · refine s_iconst dX9_laysStock_72 ?_
                  refine s_goto (tgt := 77) dX9_laysStock_73 (by decide) ?_
                  refine s_bastore2G dX9_laysStock_77 (rk_7_29 io_196) (by omega) (by omega) hG (by first | exact Or.inl rfl | exact Or.inr rfl | assumption | omega) (fun hG12 => ?_)
                  refine s_iinc dX9_laysStock_78 rfl (by decide) rfl (L' := [_, _, _, _]) rfl ?_
                  refine s_goto (tgt := 2) dX9_laysStock_81 (by decide) ?_
                  refine s_fg (L' := [(2, 196), (0, x), (0, p + 1), (9, 0)]) ⟨Or.inr rfl, Or.inr rfl, Or.inr rfl, Or.inl rfl, trivial⟩ ?_
                  refine ih (p + 1) S _ (by omega) (by omega) hG12 (fun a b c => by rw [hs_ne _ (by omega)]; exact fr a b c) (fun j j0 j1 => ?_) (fun j j0 => hS j (by omega)) hS1 hSx (fun j j0 j1 => ?_)
                  · by_cases c : j = p
                    · rw [c, hs_eq, hS p (Int.le_refl _)]
                      first | rw [if_pos (by omega)] | rw [if_neg (by omega)]
                    · rw [hs_ne _ (by omega)]
                      exact H j j0 (by omega)
                  · rw [← hF j j0 j1]
                    rcases (by omega : p < x ∨ x ≤ p) with c | c
                    · rw [show max (p + 1) x = x by omega, show max p x = x by omega]
                    · rw [show max (p + 1) x = p + 1 by omega, show max p x = p by omega, show (z 0 1 - p).toNat = (z 0 1 - (p + 1)).toNat + 1 by omega, sk_, if_neg]
                      intro q; have wq := I.2.2.2.2.1 p p0 (by omega); omega
            · have c11 := b01_n.mp c11
              refine s_iconst dX9_laysStock_52 ?_
              refine s_goto (tgt := 57) dX9_laysStock_53 (by decide) ?_
              refine s_istore_n dX9_laysStock_57 (by decide) rfl (L' := [_, _, _, _]) rfl ?_
              refine s_aload_n dX9_laysStock_58 rfl ?_
              refine s_getr dX9_laysStock_59 fl_X9_64 kl_7 (by decide) rfl io_196 (z := 29) rfl (rf_7_29 hG.1 io_196) (rk_7_29 io_196).1 ?_
              refine s_iload_n dX9_laysStock_62 rfl ?_
              refine s_iload_n dX9_laysStock_63 rfl ?_
              refine s_iload_n dX9_laysStock_64 rfl ?_
              refine s_icmp_eq (tgt := 72) dX9_laysStock_65 (by decide) (by first | exact hG.2 _ _ | exact b01_in _ | assumption | exact ⟨by omega, by omega⟩) (by first | exact hG.2 _ _ | exact b01_in _ | assumption | exact ⟨by omega, by omega⟩) (fun c14 => ?_) (fun c14 => ?_)
              · refine s_iconst dX9_laysStock_72 ?_
                refine s_goto (tgt := 77) dX9_laysStock_73 (by decide) ?_
                refine s_bastore2G dX9_laysStock_77 (rk_7_29 io_196) (by omega) (by omega) hG (by first | exact Or.inl rfl | exact Or.inr rfl | assumption | omega) (fun hG13 => ?_)
                refine s_iinc dX9_laysStock_78 rfl (by decide) rfl (L' := [_, _, _, _]) rfl ?_
                refine s_goto (tgt := 2) dX9_laysStock_81 (by decide) ?_
                refine s_fg (L' := [(2, 196), (0, x), (0, p + 1), (9, 0)]) ⟨Or.inr rfl, Or.inr rfl, Or.inr rfl, Or.inl rfl, trivial⟩ ?_
                have xle : x ≤ z 2 p := Classical.byContradiction fun q => by have w := hSx (z 2 p) (by omega); omega
                refine ih (p + 1) (fun y => if y = p then 1 else S y) _ (by omega) (by omega) hG13 (fun a b c => by rw [hs_ne _ (by omega)]; exact fr a b c) (fun j j0 j1 => ?_) (fun j j0 => ?_) (fun j => ?_) (fun j j0 => ?_) (fun j j0 j1 => ?_)
                · by_cases c : j = p
                  · rw [c, hs_eq, if_pos rfl]
                  · rw [hs_ne _ (by omega), if_neg c]
                    exact H j j0 (by omega)
                · rw [if_neg (by omega)]
                  exact hS j (by omega)
                · by_cases c : j = p
                  · rw [if_pos c]
                    exact Or.inr rfl
                  · rw [if_neg c]
                    exact hS1 j
                · rw [if_neg (by omega)]
                  exact hSx j j0
                · rw [← hF j j0 j1, show max (p + 1) x = p + 1 by omega, show max p x = p by omega, show (z 0 1 - p).toNat = (z 0 1 - (p + 1)).toNat + 1 by omega, sk_, if_pos ⟨xle, by omega, by omega⟩]
              · refine s_iload_n dX9_laysStock_68 rfl ?_
                refine s_if_eq (tgt := 76) dX9_laysStock_69 (by decide) (by first | exact hG.2 _ _ | exact b01_in _ | assumption | exact ⟨by omega, by omega⟩) (fun c15 => ?_) (fun c15 => ?_)
                · refine s_iconst dX9_laysStock_76 ?_
                  refine s_bastore2G dX9_laysStock_77 (rk_7_29 io_196) (by omega) (by omega) hG (by first | exact Or.inl rfl | exact Or.inr rfl | assumption | omega) (fun hG14 => ?_)
                  refine s_iinc dX9_laysStock_78 rfl (by decide) rfl (L' := [_, _, _, _]) rfl ?_
                  refine s_goto (tgt := 2) dX9_laysStock_81 (by decide) ?_
                  exfalso
                  omega
                · refine s_iconst dX9_laysStock_72 ?_
                  refine s_goto (tgt := 77) dX9_laysStock_73 (by decide) ?_
                  refine s_bastore2G dX9_laysStock_77 (rk_7_29 io_196) (by omega) (by omega) hG (by first | exact Or.inl rfl | exact Or.inr rfl | assumption | omega) (fun hG15 => ?_)
                  refine s_iinc dX9_laysStock_78 rfl (by decide) rfl (L' := [_, _, _, _]) rfl ?_
                  refine s_goto (tgt := 2) dX9_laysStock_81 (by decide) ?_
                  refine s_fg (L' := [(2, 196), (0, x), (0, p + 1), (9, 0)]) ⟨Or.inr rfl, Or.inr rfl, Or.inr rfl, Or.inl rfl, trivial⟩ ?_
                  have xle : x ≤ z 2 p := Classical.byContradiction fun q => by have w := hSx (z 2 p) (by omega); omega
                  refine ih (p + 1) (fun y => if y = p then 1 else S y) _ (by omega) (by omega) hG15 (fun a b c => by rw [hs_ne _ (by omega)]; exact fr a b c) (fun j j0 j1 => ?_) (fun j j0 => ?_) (fun j => ?_) (fun j j0 => ?_) (fun j j0 j1 => ?_)
                  · by_cases c : j = p
                    · rw [c, hs_eq, if_pos rfl]
                    · rw [hs_ne _ (by omega), if_neg c]
                      exact H j j0 (by omega)
                  · rw [if_neg (by omega)]
                    exact hS j (by omega)
                  · by_cases c : j = p
                    · rw [if_pos c]
                      exact Or.inr rfl
                    · rw [if_neg c]
                      exact hS1 j
                  · rw [if_neg (by omega)]
                    exact hSx j j0
                  · rw [← hF j j0 j1, show max (p + 1) x = p + 1 by omega, show max p x = p by omega, show (z 0 1 - p).toNat = (z 0 1 - (p + 1)).toNat + 1 by omega, sk_, if_pos ⟨xle, by omega, by omega⟩]
set_option maxRecDepth 100000 in
set_option maxHeartbeats 4000000 in
theorem c_X9_laysStock {x : Int} (hd : 1 ≤ d) (M : MR_ h z) (x0 : 0 ≤ x) (x1 : x < z 0 1) (k : ∀ h1 : PH, G h1 → (∀ a b : Int, ¬ a = 196 + 17 → h1 a b = h a b) → (∀ j : Int, 0 ≤ j → j < z 0 1 → h1 (196 + 17) j = sk_ (z 2) (zdd z) x (z 0 1 - x).toNat x (fun y => if y = x then (1 : Int) else 0) j ∧ (sk_ (z 2) (zdd z) x (z 0 1 - x).toNat x (fun y => if y = x then (1 : Int) else 0) j = 0 ∨ sk_ (z 2) (zdd z) x (z 0 1 - x).toNat x (fun y => if y = x then (1 : Int) else 0) j = 1)) → Q.1 none nN h1) : Cl_ yX9_laysStock MX9_laysStock d bc bs [(2, 196), (0, x)] nN h Q := by
  refine s_enter pn_X9 rfl (Nat.le_of_ble_eq_true rfl) (L := [(2, _), (0, _), (9, 0), (9, 0)]) rfl ?_
  have hG := M.1
  have I := mr_i M
  have hT := I.2.1
  have hP := I.2.2.1
  have hN := I.2.2.2.1
  have nn := M.2.1
  refine s_iconst dX9_laysStock_0 ?_
  refine s_istore_n dX9_laysStock_1 (by decide) rfl (L' := [_, _, _, _]) rfl ?_
  exact lp_X9_laysStock (F := sk_ (z 2) (zdd z) x (z 0 1 - x).toNat x (fun y => if y = x then (1 : Int) else 0)) hd M x0 x1 k (z 0 1).toNat 0 (fun y => if y = x then (1 : Int) else 0) h (Int.le_refl _) (by omega) hG (fun _ _ _ => rfl) (fun j j0 j1 => by omega) (fun j j0 => rfl) (fun j => by show (if j = x then (1 : Int) else 0) = 0 ∨ (if j = x then (1 : Int) else 0) = 1; split <;> omega) (fun j j0 => if_neg (by omega)) (fun j j0 j1 => by rw [show max 0 x = x by omega])
set_option maxRecDepth 100000 in
set_option maxHeartbeats 4000000 in
theorem lp_X9_stock {x v : Int} {F : Int → Int} (hd : 1 ≤ d) (M : MR_ h z) (hv : inI v) (x0 : 0 ≤ x) (hF : ∀ j : Int, 0 ≤ j → j < z 0 1 → h (196 + 17) j = F j ∧ (F j = 0 ∨ F j = 1)) (k : Q.1 (some (0, kt_ (fun y => F y = 1 ∧ zdd z y = 0) (z 0 1 - x).toNat x 0 v)) nN h) : ∀ (m : Nat) (p n : Int), (x ≤ p) → (p + m = z 0 1) → (0 ≤ n ∧ n ≤ p) → (kt_ (fun y => F y = 1 ∧ zdd z y = 0) (z 0 1 - x).toNat x 0 v = kt_ (fun y => F y = 1 ∧ zdd z y = 0) m p n v) → S_ MX9_stock d bc bs Q 36 [(2, 196), (0, x), (0, v), (0, n), (0, p)] [] nN h := by
  intro m
  induction m with
  | zero =>
    intro p n xp pm nb hk
    have hG := M.1
    have I := mr_i M
    have hT := I.2.1
    have hP := I.2.2.1
    have hN := I.2.2.2.1
    have nn := M.2.1
    have fp : p < z 0 1 → h (196 + 17) p = F p ∧ (F p = 0 ∨ F p = 1) := fun c => hF p (by omega) c
    refine s_iload dX9_stock_36 rfl ?_
    refine s_aload_n dX9_stock_38 rfl ?_
    refine s_geti dX9_stock_39 fl_X9_281 kl_7 (by decide) rfl io_196 (z := 6) rfl ?_
    refine s_icmp_ge (tgt := 84) dX9_stock_42 (by decide) (by first | exact hG.2 _ _ | exact b01_in _ | assumption | exact ⟨by omega, by omega⟩) (by first | exact hG.2 _ _ | exact b01_in _ | assumption | exact ⟨by omega, by omega⟩) (fun c1 => ?_) (fun c1 => ?_)
    · refine s_iconst dX9_stock_84 ?_
      exact s_ireturn dX9_stock_85 rfl (q_val hk k)
    · exact absurd c1 (by omega)
  | succ m ih =>
    intro p n xp pm nb hk
    have hG := M.1
    have I := mr_i M
    have hT := I.2.1
    have hP := I.2.2.1
    have hN := I.2.2.2.1
    have nn := M.2.1
    have fp : p < z 0 1 → h (196 + 17) p = F p ∧ (F p = 0 ∨ F p = 1) := fun c => hF p (by omega) c
    refine s_iload dX9_stock_36 rfl ?_
    refine s_aload_n dX9_stock_38 rfl ?_
    refine s_geti dX9_stock_39 fl_X9_281 kl_7 (by decide) rfl io_196 (z := 6) rfl ?_
    refine s_icmp_ge (tgt := 84) dX9_stock_42 (by decide) (by first | exact hG.2 _ _ | exact b01_in _ | assumption | exact ⟨by omega, by omega⟩) (by first | exact hG.2 _ _ | exact b01_in _ | assumption | exact ⟨by omega, by omega⟩) (fun c1 => ?_) (fun c1 => ?_)
    · exact absurd c1 (by omega)
    · refine s_aload_n dX9_stock_45 rfl ?_
      refine s_getr dX9_stock_46 fl_X9_64 kl_7 (by decide) rfl io_196 (z := 29) rfl (rf_7_29 hG.1 io_196) (rk_7_29 io_196).1 ?_
      refine s_iload dX9_stock_49 rfl ?_
      refine s_baload2 dX9_stock_51 (rk_7_29 io_196) (by omega) (by omega) ?_
      have fp := fp (by omega)
      rw [fp.1]
      refine s_if_eq (tgt := 78) dX9_stock_52 (by decide) (by first | exact hG.2 _ _ | exact b01_in _ | assumption | exact ⟨by omega, by omega⟩) (fun c2 => ?_) (fun c2 => ?_)
      · refine s_iinc dX9_stock_78 rfl (by decide) rfl (L' := [_, _, _, _, _]) rfl ?_
        refine s_goto (tgt := 36) dX9_stock_81 (by decide) ?_
        first
          | exact ih (p + 1) _ (by omega) (by omega) (by omega) (hk.trans (kt_s (C := fun y => F y = 1 ∧ zdd z y = 0) ⟨by omega, by omega⟩ (by omega)))
          | exact ih (p + 1) _ (by omega) (by omega) (by omega) (hk.trans (kt_f (C := fun y => F y = 1 ∧ zdd z y = 0) (fun q => by have q1 := q.1; have q2 := q.2; omega)))
      · refine s_aload_n dX9_stock_55 rfl ?_
        refine s_iload dX9_stock_56 rfl ?_
        refine s_callV (d' := d - 1) (bc' := 0) (bs' := 0) (as := [_]) dX9_stock_58 vf_X9_308 (dd_ (by omega) (by decide)) ⟨Nat.zero_le _, Nat.zero_le _⟩ rfl rfl (Nat.le_of_ble_eq_true rfl) kl_7 rfl io_196 ?_
        refine c_X9_isDead M (by omega) (by omega) ?_
        refine s_if_eq (tgt := 67) dX9_stock_61 (by decide) (by first | exact hG.2 _ _ | exact b01_in _ | assumption | exact ⟨by omega, by omega⟩) (fun c3 => ?_) (fun c3 => ?_)
        · have c3 := b01_0.mp c3
          refine s_iload_n dX9_stock_67 rfl ?_
          refine s_iload_n dX9_stock_68 rfl ?_
          refine s_icmp_ne (tgt := 75) dX9_stock_69 (by decide) (by first | exact hG.2 _ _ | exact b01_in _ | assumption | exact ⟨by omega, by omega⟩) (by first | exact hG.2 _ _ | exact b01_in _ | assumption | exact ⟨by omega, by omega⟩) (fun c4 => ?_) (fun c4 => ?_)
          · refine s_iinc dX9_stock_75 rfl (by decide) rfl (L' := [_, _, _, _, _]) rfl ?_
            refine s_iinc dX9_stock_78 rfl (by decide) rfl (L' := [_, _, _, _, _]) rfl ?_
            refine s_goto (tgt := 36) dX9_stock_81 (by decide) ?_
            first
              | exact ih (p + 1) _ (by omega) (by omega) (by omega) (hk.trans (kt_s (C := fun y => F y = 1 ∧ zdd z y = 0) ⟨by omega, by omega⟩ (by omega)))
              | exact ih (p + 1) _ (by omega) (by omega) (by omega) (hk.trans (kt_f (C := fun y => F y = 1 ∧ zdd z y = 0) (fun q => by have q1 := q.1; have q2 := q.2; omega)))
          · refine s_iload dX9_stock_72 rfl ?_
            exact s_ireturn dX9_stock_74 rfl (q_val (hk.trans (kt_t (C := fun y => F y = 1 ∧ zdd z y = 0) ⟨by omega, by omega⟩ (by omega))) k)
        · have c3 := b01_n.mp c3
          refine s_goto (tgt := 78) dX9_stock_64 (by decide) ?_
          refine s_iinc dX9_stock_78 rfl (by decide) rfl (L' := [_, _, _, _, _]) rfl ?_
          refine s_goto (tgt := 36) dX9_stock_81 (by decide) ?_
          first
            | exact ih (p + 1) _ (by omega) (by omega) (by omega) (hk.trans (kt_s (C := fun y => F y = 1 ∧ zdd z y = 0) ⟨by omega, by omega⟩ (by omega)))
            | exact ih (p + 1) _ (by omega) (by omega) (by omega) (hk.trans (kt_f (C := fun y => F y = 1 ∧ zdd z y = 0) (fun q => by have q1 := q.1; have q2 := q.2; omega)))
set_option maxRecDepth 100000 in
set_option maxHeartbeats 4000000 in
theorem c_X9_stock {x v : Int} (hd : 10 ≤ d) (M : MR_ h z) (hp : inI x) (hv : inI v) (k : 0 ≤ x → x < z 0 1 → MK_ Q h z 0 (zstock z x v)) (k1 : ¬ (0 ≤ x ∧ x < z 0 1) → MK_ Q h z 1 0) : Cl_ yX9_stock MX9_stock d bc bs [(2, 196), (0, x), (0, v)] nN h Q := by
  refine s_enter pn_X9 rfl (Nat.le_of_ble_eq_true rfl) (L := [(2, _), (0, _), (0, _), (9, 0), (9, 0)]) rfl ?_
  have hG := M.1
  have I := mr_i M
  have hT := I.2.1
  have hP := I.2.2.1
  have hN := I.2.2.2.1
  have nn := M.2.1
  refine s_aload_n dX9_stock_0 rfl ?_
  refine s_aload_n dX9_stock_1 rfl ?_
  refine s_iload_n dX9_stock_2 rfl ?_
  refine s_callV (d' := d - 1) (bc' := 0) (bs' := 0) (as := [_]) dX9_stock_3 vf_X9_290 (dd_ (by omega) (by decide)) ⟨Nat.zero_le _, Nat.zero_le _⟩ rfl rfl (Nat.le_of_ble_eq_true rfl) kl_7 rfl io_196 ?_
  refine c_X9_isPerson (by omega) M hp ?_
  refine s_if_eq (tgt := 13) dX9_stock_6 (by decide) (by first | exact hG.2 _ _ | exact b01_in _ | assumption | exact ⟨by omega, by omega⟩) (fun c1 => ?_) (fun c1 => ?_)
  · have c1 := b01_0.mp c1
    refine s_iconst dX9_stock_13 ?_
    refine s_putiG 0 dX9_stock_14 fl_X9_98 kl_7 (by decide) rfl rfl io_196 (z := 0) rfl (by decide +kernel) hG (by first | exact hG.2 _ _ | exact b01_in _ | assumption | exact ⟨by omega, by omega⟩) (fun hG1 => ?_)
    obtain ⟨M, fm, th⟩ := mr_th M hG1
    refine s_aload_n dX9_stock_17 rfl ?_
    refine s_geti dX9_stock_18 fl_X9_98 kl_7 (by decide) rfl io_196 (z := 0) rfl ?_
    rw [th]
    refine s_if_le (tgt := 26) dX9_stock_21 (by decide) (by first | exact hG1.2 _ _ | exact hG.2 _ _ | exact b01_in _ | assumption | exact ⟨by omega, by omega⟩) (fun c2 => ?_) (fun c2 => ?_)
    · exact absurd c2 (by decide)
    · refine s_iconst dX9_stock_24 ?_
      exact s_ireturn dX9_stock_25 rfl (k1 (by omega) _ M fm th)
  · have c1 := b01_n.mp c1
    refine s_iconst dX9_stock_9 ?_
    refine s_goto (tgt := 14) dX9_stock_10 (by decide) ?_
    refine s_putiG 0 dX9_stock_14 fl_X9_98 kl_7 (by decide) rfl rfl io_196 (z := 0) rfl (by decide +kernel) hG (by first | exact hG.2 _ _ | exact b01_in _ | assumption | exact ⟨by omega, by omega⟩) (fun hG2 => ?_)
    obtain ⟨M, fm, th⟩ := mr_th M hG2
    refine s_aload_n dX9_stock_17 rfl ?_
    refine s_geti dX9_stock_18 fl_X9_98 kl_7 (by decide) rfl io_196 (z := 0) rfl ?_
    rw [th]
    refine s_if_le (tgt := 26) dX9_stock_21 (by decide) (by first | exact hG2.2 _ _ | exact hG.2 _ _ | exact b01_in _ | assumption | exact ⟨by omega, by omega⟩) (fun c3 => ?_) (fun c3 => ?_)
    · refine s_aload_n dX9_stock_26 rfl ?_
      refine s_iload_n dX9_stock_27 rfl ?_
      refine s_callV (d' := d - 1) (bc' := 0) (bs' := 0) (as := [_]) dX9_stock_28 vf_X9_436 (dd_ (by omega) (by decide)) ⟨Nat.zero_le _, Nat.zero_le _⟩ rfl rfl (Nat.le_of_ble_eq_true rfl) kl_7 rfl io_196 ?_
      refine c_X9_laysStock (by omega) M (by omega) (by omega) (fun hhG3 ghG3 fhG3 FhG3 => ?_)
      have hG3 := ghG3
      have M := sc_M M ghG3 (fun a b c _ => fhG3 a b (by omega))
      have fm := fm.tr (sc_fm (fun a b c _ => fhG3 a b (by omega)))
      have th := (fhG3 196 0 (by omega)).trans th
      have F9 := FhG3
      refine s_iconst dX9_stock_31 ?_
      refine s_istore_n dX9_stock_32 (by decide) rfl (L' := [_, _, _, _, _]) rfl ?_
      refine s_iload_n dX9_stock_33 rfl ?_
      refine s_istore dX9_stock_34 (by decide) rfl (L' := [_, _, _, _, _]) rfl ?_
      exact lp_X9_stock (by omega) M hv (by omega) F9 (k (by omega) (by omega) _ M fm th) (z 0 1 - x).toNat x 0 (Int.le_refl _) (by omega) (by omega) rfl
    · exact absurd c3 (by decide)
set_option maxRecDepth 100000 in
set_option maxHeartbeats 4000000 in
theorem lp_X9_heir {v : Int} (hd : 4 ≤ d) (hv : inI v) (k : MK_ Q h0 z 0 (zheir z v)) : ∀ (m : Nat) (p n : Int) (h : PH), (0 ≤ p) → (p + m = z 0 1) → (0 ≤ n ∧ n ≤ p) → (MR_ h z) → (FM h0 h) → (h 196 0 = 0) → (zheir z v = kt_ (fun p => ¬ z 3 p = 0 ∧ 0 < zlv z p) m p n v) → S_ MX9_heir d bc bs Q 9 [(2, 196), (0, v), (0, n), (0, p)] [] nN h := by
  intro m
  induction m with
  | zero =>
    intro p n h p0 pm nb M fm th hk
    have hG := M.1
    have I := mr_i M
    have hT := I.2.1
    have hP := I.2.2.1
    have hN := I.2.2.2.1
    have nn := M.2.1
    refine s_iload_n dX9_heir_9 rfl ?_
    refine s_aload_n dX9_heir_10 rfl ?_
    refine s_geti dX9_heir_11 fl_X9_281 kl_7 (by decide) rfl io_196 (z := 6) rfl ?_
    refine s_icmp_ge (tgt := 44) dX9_heir_14 (by decide) (by first | exact hG.2 _ _ | exact b01_in _ | assumption | exact ⟨by omega, by omega⟩) (by first | exact hG.2 _ _ | exact b01_in _ | assumption | exact ⟨by omega, by omega⟩) (fun c1 => ?_) (fun c1 => ?_)
    · refine s_iconst dX9_heir_44 ?_
      exact s_ireturn dX9_heir_45 rfl (q_val hk (k _ M fm th))
    · exact absurd c1 (by omega)
  | succ m ih =>
    intro p n h p0 pm nb M fm th hk
    have hG := M.1
    have I := mr_i M
    have hT := I.2.1
    have hP := I.2.2.1
    have hN := I.2.2.2.1
    have nn := M.2.1
    refine s_iload_n dX9_heir_9 rfl ?_
    refine s_aload_n dX9_heir_10 rfl ?_
    refine s_geti dX9_heir_11 fl_X9_281 kl_7 (by decide) rfl io_196 (z := 6) rfl ?_
    refine s_icmp_ge (tgt := 44) dX9_heir_14 (by decide) (by first | exact hG.2 _ _ | exact b01_in _ | assumption | exact ⟨by omega, by omega⟩) (by first | exact hG.2 _ _ | exact b01_in _ | assumption | exact ⟨by omega, by omega⟩) (fun c1 => ?_) (fun c1 => ?_)
    · exact absurd c1 (by omega)
    · refine s_aload_n dX9_heir_17 rfl ?_
      refine s_iload_n dX9_heir_18 rfl ?_
      refine s_callV (d' := d - 1) (bc' := 0) (bs' := 0) (as := [_]) dX9_heir_19 vf_X9_400 (dd_ (by omega) (by decide)) ⟨Nat.zero_le _, Nat.zero_le _⟩ rfl rfl (Nat.le_of_ble_eq_true rfl) kl_7 rfl io_196 ?_
      refine c_X9_isHeir (by omega) M p0 (by omega) (fun hhG1 ghG1 fhG1 => ?_)
      have hG1 := ghG1
      have M := sc_M M ghG1 (sc_16 fhG1)
      have fm := fm.tr (sc_fm (sc_16 fhG1))
      have th := (sc_0 (sc_16 fhG1)).trans th
      refine s_if_ne (tgt := 28) dX9_heir_22 (by decide) (by first | exact hG1.2 _ _ | exact hG.2 _ _ | exact b01_in _ | assumption | exact ⟨by omega, by omega⟩) (fun c2 => ?_) (fun c2 => ?_)
      · have cc := b01_n.mp c2--go
        have c2 := b01_n.mp c2
        refine s_iload_n dX9_heir_28 rfl ?_
        refine s_iload_n dX9_heir_29 rfl ?_
        refine s_icmp_ne (tgt := 35) dX9_heir_30 (by decide) (by first | exact hG1.2 _ _ | exact hG.2 _ _ | exact b01_in _ | assumption | exact ⟨by omega, by omega⟩) (by first | exact hG1.2 _ _ | exact hG.2 _ _ | exact b01_in _ | assumption | exact ⟨by omega, by omega⟩) (fun c3 => ?_) (fun c3 => ?_)
        · refine s_iinc dX9_heir_35 rfl (by decide) rfl (L' := [_, _, _, _]) rfl ?_
          refine s_iinc dX9_heir_38 rfl (by decide) rfl (L' := [_, _, _, _]) rfl ?_
          refine s_goto (tgt := 9) dX9_heir_41 (by decide) ?_
          first
            | exact ih (p + 1) _ _ (by omega) (by omega) (by omega) M fm th (hk.trans (kt_s (C := (fun p => ¬ z 3 p = 0 ∧ 0 < zlv z p)) cc (by omega)))
            | exact ih (p + 1) _ _ (by omega) (by omega) (by omega) M fm th (hk.trans (kt_f (C := (fun p => ¬ z 3 p = 0 ∧ 0 < zlv z p)) cc))
        · refine s_iload_n dX9_heir_33 rfl ?_
          exact s_ireturn dX9_heir_34 rfl (q_val (hk.trans (kt_t (C := (fun p => ¬ z 3 p = 0 ∧ 0 < zlv z p)) cc (by omega))) (k _ M fm th))
      · have cc := b01_0.mp c2--go
        have c2 := b01_0.mp c2
        refine s_goto (tgt := 38) dX9_heir_25 (by decide) ?_
        refine s_iinc dX9_heir_38 rfl (by decide) rfl (L' := [_, _, _, _]) rfl ?_
        refine s_goto (tgt := 9) dX9_heir_41 (by decide) ?_
        first
          | exact ih (p + 1) _ _ (by omega) (by omega) (by omega) M fm th (hk.trans (kt_s (C := (fun p => ¬ z 3 p = 0 ∧ 0 < zlv z p)) cc (by omega)))
          | exact ih (p + 1) _ _ (by omega) (by omega) (by omega) M fm th (hk.trans (kt_f (C := (fun p => ¬ z 3 p = 0 ∧ 0 < zlv z p)) cc))
set_option maxRecDepth 100000 in
set_option maxHeartbeats 4000000 in
theorem c_X9_heir {v : Int} (hd : 10 ≤ d) (M : MR_ h z) (hv : inI v) (k : MK_ Q h z 0 (zheir z v)) : Cl_ yX9_heir MX9_heir d bc bs [(2, 196), (0, v)] nN h Q := by
  refine s_enter pn_X9 rfl (Nat.le_of_ble_eq_true rfl) (L := [(2, _), (0, _), (9, 0), (9, 0)]) rfl ?_
  have hG := M.1
  have I := mr_i M
  have hT := I.2.1
  have hP := I.2.2.1
  have hN := I.2.2.2.1
  have nn := M.2.1
  refine s_aload_n dX9_heir_0 rfl ?_
  refine s_iconst dX9_heir_1 ?_
  refine s_putiG 0 dX9_heir_2 fl_X9_98 kl_7 (by decide) rfl rfl io_196 (z := 0) rfl (by decide +kernel) hG (by first | exact hG.2 _ _ | exact b01_in _ | assumption | exact ⟨by omega, by omega⟩) (fun hG1 => ?_)
  obtain ⟨M, fm, th⟩ := mr_th M hG1
  refine s_iconst dX9_heir_5 ?_
  refine s_istore_n dX9_heir_6 (by decide) rfl (L' := [_, _, _, _]) rfl ?_
  refine s_iconst dX9_heir_7 ?_
  refine s_istore_n dX9_heir_8 (by decide) rfl (L' := [_, _, _, _]) rfl ?_
  exact lp_X9_heir (h0 := h) (by omega) hv k (z 0 1).toNat 0 0 _ (Int.le_refl _) (by omega) (by omega) M fm th rfl
set_option maxRecDepth 100000 in
set_option maxHeartbeats 4000000 in
theorem lp_X9_rankA {v : Int} (hd : 10 ≤ d) (K : ∀ (h : PH) (p : Int), MR_ h z → FM h0 h → h 196 0 = 0 → (∀ j : Int, 0 ≤ j → j < z 0 1 → h (196 + 26) j = zta z j) → S_ MX9_ranked d bc bs Q 32 [(2, 196), (0, v), (0, p), (9, 0), (9, 0)] [] nN h) : ∀ (m : Nat) (p : Int) (h : PH), (0 ≤ p) → (p + m = z 0 1) → (MR_ h z) → (FM h0 h) → (h 196 0 = 0) → (∀ j : Int, 0 ≤ j → j < p → h (196 + 26) j = zta z j) → S_ MX9_ranked d bc bs Q 7 [(2, 196), (0, v), (0, p), (9, 0), (9, 0)] [] nN h := by
  intro m
  induction m with
  | zero =>
    intro p h p0 pm M fm th H
    have hG := M.1
    have I := mr_i M
    have hT := I.2.1
    have hP := I.2.2.1
    have hN := I.2.2.2.1
    have nn := M.2.1
    have tb : p < z 0 1 → 0 ≤ zta z p ∧ zta z p ≤ 96000000 := fun c => zta_bd I p0 c
    refine s_iload_n dX9_ranked_7 rfl ?_
    refine s_aload_n dX9_ranked_8 rfl ?_
    refine s_geti dX9_ranked_9 fl_X9_281 kl_7 (by decide) rfl io_196 (z := 6) rfl ?_
    refine s_icmp_ge (tgt := 32) dX9_ranked_12 (by decide) (by first | exact hG.2 _ _ | exact b01_in _ | assumption | exact ⟨by omega, by omega⟩) (by first | exact hG.2 _ _ | exact b01_in _ | assumption | exact ⟨by omega, by omega⟩) (fun c1 => ?_) (fun c1 => ?_)
    · exact K h p M fm th (fun j j0 j1 => H j j0 (by omega))
    · exact absurd c1 (by omega)
  | succ m ih =>
    intro p h p0 pm M fm th H
    have hG := M.1
    have I := mr_i M
    have hT := I.2.1
    have hP := I.2.2.1
    have hN := I.2.2.2.1
    have nn := M.2.1
    have tb : p < z 0 1 → 0 ≤ zta z p ∧ zta z p ≤ 96000000 := fun c => zta_bd I p0 c
    refine s_iload_n dX9_ranked_7 rfl ?_
    refine s_aload_n dX9_ranked_8 rfl ?_
    refine s_geti dX9_ranked_9 fl_X9_281 kl_7 (by decide) rfl io_196 (z := 6) rfl ?_
    refine s_icmp_ge (tgt := 32) dX9_ranked_12 (by decide) (by first | exact hG.2 _ _ | exact b01_in _ | assumption | exact ⟨by omega, by omega⟩) (by first | exact hG.2 _ _ | exact b01_in _ | assumption | exact ⟨by omega, by omega⟩) (fun c1 => ?_) (fun c1 => ?_)
    · exact absurd c1 (by omega)
    · refine s_aload_n dX9_ranked_15 rfl ?_
      refine s_getr dX9_ranked_16 fl_X9_92 kl_7 (by decide) rfl io_196 (z := 42) rfl (rf_7_42 hG.1 io_196) (rk_7_42 io_196).1 ?_
      refine s_iload_n dX9_ranked_19 rfl ?_
      refine s_aload_n dX9_ranked_20 rfl ?_
      refine s_iload_n dX9_ranked_21 rfl ?_
      refine s_callV (d' := d - 1) (bc' := 0) (bs' := 0) (as := [_]) dX9_ranked_22 vf_X9_433 (dd_ (by omega) (by decide)) ⟨Nat.zero_le _, Nat.zero_le _⟩ rfl rfl (Nat.le_of_ble_eq_true rfl) kl_7 rfl io_196 ?_
      refine c_X9_takesAllOf (by omega) M p0 (by omega) (fun hhG1 ghG1 fhG1 RhG1 => ?_)
      have hG1 := ghG1
      have M := sc_M M ghG1 fhG1
      have fm := fm.tr (sc_fm fhG1)
      have th := (sc_0 fhG1).trans th
      have f26 : ∀ j : Int, hhG1 (196 + 26) j = h (196 + 26) j := fun j => fhG1 _ _ (by omega) (by omega)
      have tb := tb (by omega)
      refine s_iastoreG dX9_ranked_25 (rk_7_42 io_196) (by omega) (by omega) hG1 (by first | exact hG1.2 _ _ | exact hG.2 _ _ | exact b01_in _ | assumption | exact ⟨by omega, by omega⟩) (fun hG2 => ?_)
      refine s_iinc dX9_ranked_26 rfl (by decide) rfl (L' := [_, _, _, _, _]) rfl ?_
      refine s_goto (tgt := 7) dX9_ranked_29 (by decide) ?_
      have M2 : MR_ _ z := mr_to M hG2 (fun x y a => hs_ne _ (by unfold pc_ at a; omega))
      refine ih (p + 1) _ (by omega) (by omega) M2 (fun x y hx => by rw [hs_ne _ (by omega)]; exact fm x y hx) (by rw [hs_ne _ (by omega)]; exact th) (fun j j0 j1 => ?_)
      by_cases c : j = p
      · rw [c, hs_eq]
      · rw [hs_ne _ (by omega), f26 j]
        exact H j j0 (by omega)
set_option maxRecDepth 100000 in
set_option maxHeartbeats 4000000 in
theorem lp_X9_rankB {v p : Int} (M : MR_ h z) (p0 : 0 ≤ p) (p1 : p < z 0 1) (H : ∀ j : Int, 0 ≤ j → j < z 0 1 → h (196 + 26) j = zta z j) (K : ∀ q : Int, S_ MX9_ranked d bc bs Q 108 [(2, 196), (0, v), (0, p), (0, zah z p), (0, q)] [] nN h) : ∀ (m : Nat) (q n : Int), (0 ≤ q) → (q + m = z 0 1) → (n = sumI (fun q => (if zta z p < zta z q ∨ (zta z q = zta z p ∧ q < p) then (1 : Int) else 0)) 0 q.toNat) → S_ MX9_ranked d bc bs Q 47 [(2, 196), (0, v), (0, p), (0, n), (0, q)] [] nN h := by
  intro m
  induction m with
  | zero =>
    intro q n q0 qm hn
    have hG := M.1
    have I := mr_i M
    have hT := I.2.1
    have hP := I.2.2.1
    have hN := I.2.2.2.1
    have nn := M.2.1
    have tp := zta_bd I p0 p1
    have tq : q < z 0 1 → 0 ≤ zta z q ∧ zta z q ≤ 96000000 := fun c => zta_bd I q0 c
    refine s_iload dX9_ranked_47 rfl ?_
    refine s_aload_n dX9_ranked_49 rfl ?_
    refine s_geti dX9_ranked_50 fl_X9_281 kl_7 (by decide) rfl io_196 (z := 6) rfl ?_
    refine s_icmp_ge (tgt := 108) dX9_ranked_53 (by decide) (by first | exact hG.2 _ _ | exact b01_in _ | assumption | exact ⟨by omega, by omega⟩) (by first | exact hG.2 _ _ | exact b01_in _ | assumption | exact ⟨by omega, by omega⟩) (fun c1 => ?_) (fun c1 => ?_)
    · have e9 : n = zah z p := by rw [hn, show q = z 0 1 by omega]; rfl
      rw [e9]
      exact K q
    · exact absurd c1 (by omega)
  | succ m ih =>
    intro q n q0 qm hn
    have hG := M.1
    have I := mr_i M
    have hT := I.2.1
    have hP := I.2.2.1
    have hN := I.2.2.2.1
    have nn := M.2.1
    have tp := zta_bd I p0 p1
    have tq : q < z 0 1 → 0 ≤ zta z q ∧ zta z q ≤ 96000000 := fun c => zta_bd I q0 c
    refine s_iload dX9_ranked_47 rfl ?_
    refine s_aload_n dX9_ranked_49 rfl ?_
    refine s_geti dX9_ranked_50 fl_X9_281 kl_7 (by decide) rfl io_196 (z := 6) rfl ?_
    refine s_icmp_ge (tgt := 108) dX9_ranked_53 (by decide) (by first | exact hG.2 _ _ | exact b01_in _ | assumption | exact ⟨by omega, by omega⟩) (by first | exact hG.2 _ _ | exact b01_in _ | assumption | exact ⟨by omega, by omega⟩) (fun c1 => ?_) (fun c1 => ?_)
    · exact absurd c1 (by omega)
    · refine s_iload_n dX9_ranked_56 rfl ?_
      refine s_aload_n dX9_ranked_57 rfl ?_
      refine s_getr dX9_ranked_58 fl_X9_92 kl_7 (by decide) rfl io_196 (z := 42) rfl (rf_7_42 hG.1 io_196) (rk_7_42 io_196).1 ?_
      refine s_iload dX9_ranked_61 rfl ?_
      have tq := tq (by omega)
      refine s_iaload dX9_ranked_63 (rk_7_42 io_196) (by omega) (by omega) ?_
      rw [H q (by omega) (by omega)]
      refine s_aload_n dX9_ranked_64 rfl ?_
      refine s_getr dX9_ranked_65 fl_X9_92 kl_7 (by decide) rfl io_196 (z := 42) rfl (rf_7_42 hG.1 io_196) (rk_7_42 io_196).1 ?_
      refine s_iload_n dX9_ranked_68 rfl ?_
      refine s_iaload dX9_ranked_69 (rk_7_42 io_196) (by omega) (by omega) ?_
      rw [H p (by omega) (by omega)]
      refine s_icmp_gt (tgt := 95) dX9_ranked_70 (by decide) (by first | exact hG.2 _ _ | exact b01_in _ | assumption | exact ⟨by omega, by omega⟩) (by first | exact hG.2 _ _ | exact b01_in _ | assumption | exact ⟨by omega, by omega⟩) (fun c2 => ?_) (fun c2 => ?_)
      · refine s_iconst dX9_ranked_95 ?_
        refine s_goto (tgt := 100) dX9_ranked_96 (by decide) ?_
        refine s_iadd dX9_ranked_100 ?_
        refine s_istore_n dX9_ranked_101 (by decide) rfl (L' := [_, _, _, _, _]) rfl ?_
        refine s_iinc dX9_ranked_102 rfl (by decide) rfl (L' := [_, _, _, _, _]) rfl ?_
        refine s_goto (tgt := 47) dX9_ranked_105 (by decide) ?_
        exact ih (q + 1) _ (by omega) (by omega) (by rw [sumI_up _ q0, hn]; first | rw [if_pos (by omega)] | rw [if_neg (by omega)])
      · refine s_aload_n dX9_ranked_73 rfl ?_
        refine s_getr dX9_ranked_74 fl_X9_92 kl_7 (by decide) rfl io_196 (z := 42) rfl (rf_7_42 hG.1 io_196) (rk_7_42 io_196).1 ?_
        refine s_iload dX9_ranked_77 rfl ?_
        refine s_iaload dX9_ranked_79 (rk_7_42 io_196) (by omega) (by omega) ?_
        rw [H q (by omega) (by omega)]
        refine s_aload_n dX9_ranked_80 rfl ?_
        refine s_getr dX9_ranked_81 fl_X9_92 kl_7 (by decide) rfl io_196 (z := 42) rfl (rf_7_42 hG.1 io_196) (rk_7_42 io_196).1 ?_
        refine s_iload_n dX9_ranked_84 rfl ?_
        refine s_iaload dX9_ranked_85 (rk_7_42 io_196) (by omega) (by omega) ?_
        rw [H p (by omega) (by omega)]
        refine s_icmp_ne (tgt := 99) dX9_ranked_86 (by decide) (by first | exact hG.2 _ _ | exact b01_in _ | assumption | exact ⟨by omega, by omega⟩) (by first | exact hG.2 _ _ | exact b01_in _ | assumption | exact ⟨by omega, by omega⟩) (fun c3 => ?_) (fun c3 => ?_)
        · refine s_iconst dX9_ranked_99 ?_
          refine s_iadd dX9_ranked_100 ?_
          refine s_istore_n dX9_ranked_101 (by decide) rfl (L' := [_, _, _, _, _]) rfl ?_
          refine s_iinc dX9_ranked_102 rfl (by decide) rfl (L' := [_, _, _, _, _]) rfl ?_
          refine s_goto (tgt := 47) dX9_ranked_105 (by decide) ?_
          exact ih (q + 1) _ (by omega) (by omega) (by rw [sumI_up _ q0, hn]; first | rw [if_pos (by omega)] | rw [if_neg (by omega)])
        · refine s_iload dX9_ranked_89 rfl ?_
          refine s_iload_n dX9_ranked_91 rfl ?_
          refine s_icmp_ge (tgt := 99) dX9_ranked_92 (by decide) (by first | exact hG.2 _ _ | exact b01_in _ | assumption | exact ⟨by omega, by omega⟩) (by first | exact hG.2 _ _ | exact b01_in _ | assumption | exact ⟨by omega, by omega⟩) (fun c4 => ?_) (fun c4 => ?_)
          · refine s_iconst dX9_ranked_99 ?_
            refine s_iadd dX9_ranked_100 ?_
            refine s_istore_n dX9_ranked_101 (by decide) rfl (L' := [_, _, _, _, _]) rfl ?_
            refine s_iinc dX9_ranked_102 rfl (by decide) rfl (L' := [_, _, _, _, _]) rfl ?_
            refine s_goto (tgt := 47) dX9_ranked_105 (by decide) ?_
            exact ih (q + 1) _ (by omega) (by omega) (by rw [sumI_up _ q0, hn]; first | rw [if_pos (by omega)] | rw [if_neg (by omega)])
          · refine s_iconst dX9_ranked_95 ?_
            refine s_goto (tgt := 100) dX9_ranked_96 (by decide) ?_
            refine s_iadd dX9_ranked_100 ?_
            refine s_istore_n dX9_ranked_101 (by decide) rfl (L' := [_, _, _, _, _]) rfl ?_
            refine s_iinc dX9_ranked_102 rfl (by decide) rfl (L' := [_, _, _, _, _]) rfl ?_
            refine s_goto (tgt := 47) dX9_ranked_105 (by decide) ?_
            exact ih (q + 1) _ (by omega) (by omega) (by rw [sumI_up _ q0, hn]; first | rw [if_pos (by omega)] | rw [if_neg (by omega)])
set_option maxRecDepth 100000 in
set_option maxHeartbeats 4000000 in
theorem lp_X9_rankC {v : Int} (M : MR_ h z) (hv : inI v) (H : ∀ j : Int, 0 ≤ j → j < z 0 1 → h (196 + 26) j = zta z j) (k : Q.1 (some (0, zranked z v)) nN h) : ∀ (m : Nat) (p : Int), (0 ≤ p) → (p + m = z 0 1) → (zranked z v = fs_ (zah z) v m p) → S_ MX9_ranked d bc bs Q 34 [(2, 196), (0, v), (0, p), (9, 0), (9, 0)] [] nN h := by
  intro m
  induction m with
  | zero =>
    intro p p0 pm hk
    have hG := M.1
    have I := mr_i M
    have hT := I.2.1
    have hP := I.2.2.1
    have hN := I.2.2.2.1
    have nn := M.2.1
    have zb := zah_bd I p
    refine s_iload_n dX9_ranked_34 rfl ?_
    refine s_aload_n dX9_ranked_35 rfl ?_
    refine s_geti dX9_ranked_36 fl_X9_281 kl_7 (by decide) rfl io_196 (z := 6) rfl ?_
    refine s_icmp_ge (tgt := 121) dX9_ranked_39 (by decide) (by first | exact hG.2 _ _ | exact b01_in _ | assumption | exact ⟨by omega, by omega⟩) (by first | exact hG.2 _ _ | exact b01_in _ | assumption | exact ⟨by omega, by omega⟩) (fun c1 => ?_) (fun c1 => ?_)
    · refine s_iconst dX9_ranked_121 ?_
      exact s_ireturn dX9_ranked_122 rfl (q_val hk k)
    · exact absurd c1 (by omega)
  | succ m ih =>
    intro p p0 pm hk
    have hG := M.1
    have I := mr_i M
    have hT := I.2.1
    have hP := I.2.2.1
    have hN := I.2.2.2.1
    have nn := M.2.1
    have zb := zah_bd I p
    refine s_iload_n dX9_ranked_34 rfl ?_
    refine s_aload_n dX9_ranked_35 rfl ?_
    refine s_geti dX9_ranked_36 fl_X9_281 kl_7 (by decide) rfl io_196 (z := 6) rfl ?_
    refine s_icmp_ge (tgt := 121) dX9_ranked_39 (by decide) (by first | exact hG.2 _ _ | exact b01_in _ | assumption | exact ⟨by omega, by omega⟩) (by first | exact hG.2 _ _ | exact b01_in _ | assumption | exact ⟨by omega, by omega⟩) (fun c1 => ?_) (fun c1 => ?_)
    · exact absurd c1 (by omega)
    · refine s_iconst dX9_ranked_42 ?_
      refine s_istore_n dX9_ranked_43 (by decide) rfl (L' := [_, _, _, _, _]) rfl ?_
      refine s_iconst dX9_ranked_44 ?_
      refine s_istore dX9_ranked_45 (by decide) rfl (L' := [_, _, _, _, _]) rfl ?_
      refine lp_X9_rankB M p0 (by omega) H (fun q9 => ?_) (z 0 1).toNat 0 0 (Int.le_refl _) (by omega) rfl
      refine s_iload_n dX9_ranked_108 rfl ?_
      refine s_iload_n dX9_ranked_109 rfl ?_
      refine s_icmp_ne (tgt := 115) dX9_ranked_110 (by decide) (by first | exact hG.2 _ _ | exact b01_in _ | assumption | exact ⟨by omega, by omega⟩) (by first | exact hG.2 _ _ | exact b01_in _ | assumption | exact ⟨by omega, by omega⟩) (fun c1 => ?_) (fun c1 => ?_)
      · refine s_iinc dX9_ranked_115 rfl (by decide) rfl (L' := [_, _, _, _, _]) rfl ?_
        refine s_goto (tgt := 34) dX9_ranked_118 (by decide) ?_
        refine s_fg (L' := [(2, 196), (0, v), (0, p + 1), (9, 0), (9, 0)]) ⟨Or.inr rfl, Or.inr rfl, Or.inr rfl, Or.inl rfl, Or.inl rfl, trivial⟩ ?_
        exact ih (p + 1) (by omega) (by omega) (hk.trans (fs_f (by omega)))
      · refine s_iload_n dX9_ranked_113 rfl ?_
        exact s_ireturn dX9_ranked_114 rfl (q_val (hk.trans (fs_t (by omega))) k)
set_option maxRecDepth 100000 in
set_option maxHeartbeats 4000000 in
theorem c_X9_ranked {v : Int} (hd : 11 ≤ d) (M : MR_ h z) (hv : inI v) (k : MK_ Q h z 0 (zranked z v)) : Cl_ yX9_ranked MX9_ranked d bc bs [(2, 196), (0, v)] nN h Q := by
  refine s_enter pn_X9 rfl (Nat.le_of_ble_eq_true rfl) (L := [(2, _), (0, _), (9, 0), (9, 0), (9, 0)]) rfl ?_
  have hG := M.1
  have I := mr_i M
  have hT := I.2.1
  have hP := I.2.2.1
  have hN := I.2.2.2.1
  have nn := M.2.1
  refine s_aload_n dX9_ranked_0 rfl ?_
  refine s_iconst dX9_ranked_1 ?_
  refine s_putiG 0 dX9_ranked_2 fl_X9_98 kl_7 (by decide) rfl rfl io_196 (z := 0) rfl (by decide +kernel) hG (by first | exact hG.2 _ _ | exact b01_in _ | assumption | exact ⟨by omega, by omega⟩) (fun hG1 => ?_)
  obtain ⟨M, fm, th⟩ := mr_th M hG1
  refine s_iconst dX9_ranked_5 ?_
  refine s_istore_n dX9_ranked_6 (by decide) rfl (L' := [_, _, _, _, _]) rfl ?_
  refine lp_X9_rankA (h0 := h) (by omega) (fun h1 p1 M1 f1 t1 H1 => ?_) (z 0 1).toNat 0 _ (Int.le_refl _) (by omega) M fm th (fun j j0 j1 => by omega)
  have hG := M1.1
  refine s_iconst dX9_ranked_32 ?_
  refine s_istore_n dX9_ranked_33 (by decide) rfl (L' := [_, _, _, _, _]) rfl ?_
  exact lp_X9_rankC M1 hv H1 (k h1 M1 f1 t1) (z 0 1).toNat 0 (Int.le_refl _) (by omega) rfl
end X9L
