/-! WillHouse$Reader: lines read -/
section X4D
variable {d bc bs : Nat} {Q : PQ} {h0 h y : PH} {v n m a s : Int} {T : Int → Int}
set_option maxRecDepth 100000 in
set_option maxHeartbeats 4000000 in
theorem c_X4_readThing  (hd : 11 ≤ d) (E : EV_ h0 v n T) (RhG : RS_ h0 v n (y 0 1) a s y h) (a0 : 0 ≤ a) (a1 : a ≤ n) (s0 : 0 ≤ s) (s1 : s ≤ 400) (K : OT_ Q bc bs h0 v n (pThing T n s a y))  : Cl_ yX4_readThing MX4_readThing d bc bs [(2, 2)] nN h Q := by
  refine s_enter pn_X4 rfl (Nat.le_of_ble_eq_true rfl) (L := [(2, _), (9, 0)]) rfl ?_
  have hG := RhG.1.1
  have dhG := RhG.2.1
  have phG := RhG.2.2.1.1
  have hn := E.2.1
  have W := ev_w E
  have i2 := RhG.2.2.2.2.2.2.1
  have iT := i2.1
  have iP := i2.2.1
  have iG := i2.2.2
  unfold pThing at K
  have w1 := wn_bd (T := T) (n := n) (a := a) (by omega)
  have w2 := dn_bd (T := T) (n := n) (a := wn_ T n a) (by omega)
  have v2 := nv_bd (T := T) (n := n) (s := nb_ T n (wn_ T n a))
  refine s_aload_n dX4_readThing_0 rfl ?_
  refine s_aload_n dX4_readThing_1 rfl ?_
  refine s_getr dX4_readThing_2 fl_X4_12 kl_3 (by decide) rfl io_2 (z := 0) rfl RhG.1.2.2 (W).1 ?_
  refine s_getr dX4_readThing_5 fl_X4_115 kl_5 (by decide) rfl W (z := 0) rfl (rf_5_0 hG.1 W) (rk_5_0 W).1 ?_
  refine s_geti dX4_readThing_8 fl_X4_119 kl_2 (by decide) rfl (rk_5_0 W) (z := 1) rfl ?_
  refine s_bipush dX4_readThing_11 (by decide) ?_
  refine s_icmp_ge (tgt := 20) dX4_readThing_13 (by decide) (by first | exact hG.2 _ _ | exact b01_in _ | assumption | exact ⟨by omega, by omega⟩) (by first | exact hG.2 _ _ | exact b01_in _ | assumption | exact ⟨by omega, by omega⟩) (fun c1 => ?_) (fun c1 => ?_)
  · refine s_iconst dX4_readThing_20 ?_
    refine s_aload_n dX4_readThing_21 rfl ?_
    refine s_geti dX4_readThing_22 fl_X4_105 kl_3 (by decide) rfl io_2 (z := 6) rfl ?_
    
    refine s_callP (as := [_, _]) (y 0 0 < 8) (fun q => (ot_x (ot_f K q) (by omega)).1) dX4_readThing_25 vf_X4_108 (dd_ (by omega) (by decide)) rfl rfl (Nat.le_of_ble_eq_true rfl) kl_3 rfl io_2 (fun b1 b2 Q1 hb1 k1 kx1 => ?_)
    exact c_X4_demand (by omega) (fun q => hb1 (by omega)) RhG (hG.2 _ _) (Or.inl rfl) (f := s) (by omega) (by omega) (fun q => absurd rfl q) (fun q h' X => kx1 _ _ _ (by omega) ((ot_x (ot_f K (by omega)) (by omega)).2 h' X))
  · refine s_iconst dX4_readThing_16 ?_
    refine s_goto (tgt := 21) dX4_readThing_17 (by decide) ?_
    refine s_aload_n dX4_readThing_21 rfl ?_
    refine s_geti dX4_readThing_22 fl_X4_105 kl_3 (by decide) rfl io_2 (z := 6) rfl ?_
    
    refine s_callP (as := [_, _]) (y 0 0 < 8) (fun q => (ot_x (ot_f K q) (by omega)).1) dX4_readThing_25 vf_X4_108 (dd_ (by omega) (by decide)) rfl rfl (Nat.le_of_ble_eq_true rfl) kl_3 rfl io_2 (fun b1 b2 Q1 hb1 k1 kx1 => ?_)
    refine c_X4_demand (by omega) (fun q => absurd q (by decide)) RhG (hG.2 _ _) (Or.inr rfl) (f := s) (by omega) (by omega) (fun q => k1 _ _ _ (by omega) ?_) (fun q => absurd q (by decide))
    have K := ot_t K (show y 0 0 < 8 from (by omega))
    refine s_aload_n dX4_readThing_28 rfl ?_
    refine s_aload_n dX4_readThing_29 rfl ?_
    refine s_getr dX4_readThing_30 fl_X4_12 kl_3 (by decide) rfl io_2 (z := 0) rfl RhG.1.2.2 (W).1 ?_
    refine s_getr dX4_readThing_33 fl_X4_115 kl_5 (by decide) rfl W (z := 0) rfl (rf_5_0 hG.1 W) (rk_5_0 W).1 ?_
    
    refine s_callP (as := [_]) (okU T n a ∧ tT y T n a = -1) (fun q => (ot_x (ot_f K q) (by omega)).1) dX4_readThing_36 vf_X4_124 (dd_ (by omega) (by decide)) rfl rfl (Nat.le_of_ble_eq_true rfl) kl_3 rfl io_2 (fun b1 b2 Q1 hb1 k1 kx1 => ?_)
    refine c_X4_takeNewNameT (by omega) (by omega) (fun q => hb1 q) E RhG (by omega) (by omega) (fun okhG1 hhG1 RhG1 => k1 _ _ _ okhG1 ?_) (fun q h' X => kx1 _ _ _ q ((ot_x (ot_f K q) (by omega)).2 h' X))
    have hG1 := RhG1.1.1
    have dhG1 := RhG1.2.1
    have phG1 := RhG1.2.2.1.1
    have K := ot_t K okhG1
    refine s_istore_n dX4_readThing_39 (by decide) rfl (L' := [_, _]) rfl ?_
    refine s_aload_n dX4_readThing_40 rfl ?_
    refine s_getr dX4_readThing_41 fl_X4_21 kl_3 (by decide) rfl io_2 (z := 1) rfl (rf_3_1 hG1.1 io_2) (rk_3_1 io_2).1 ?_
    refine s_iload_n dX4_readThing_44 rfl ?_
    refine s_aload_n dX4_readThing_45 rfl ?_
    refine s_iconst dX4_readThing_46 ?_
    refine s_sipush dX4_readThing_47 (by decide) ?_
    
    refine s_callP (as := [_, _]) (okN T n (wn_ T n a) 1 9999) (fun q => (ot_x (ot_f K q) (by omega)).1) dX4_readThing_50 vf_X4_71 (dd_ (by omega) (by decide)) rfl rfl (Nat.le_of_ble_eq_true rfl) kl_3 rfl io_2 (fun b1 b2 Q1 hb1 k1 kx1 => ?_)
    refine c_X4_takeNumber (by omega) ⟨by omega, by omega⟩ ⟨by omega, by omega⟩ (fun q => hb1 q) E RhG1 (by omega) (by omega) (fun okhG2 hhG2 RhG2 => k1 _ _ _ okhG2 ?_) (fun q h' X => kx1 _ _ _ q ((ot_x (ot_f K q) (by omega)).2 h' X))
    have hG2 := RhG2.1.1
    have dhG2 := RhG2.2.1
    have phG2 := RhG2.2.2.1.1
    have K := ot_t K okhG2
    have ohG2 := okhG2.2
    refine s_callV (d' := d - 1) (bc' := 0) (bs' := 0) (as := [_, _]) dX4_readThing_53 vf_X4_128 (dd_ (by omega) (by decide)) ⟨Nat.zero_le _, Nat.zero_le _⟩ rfl rfl (Nat.le_of_ble_eq_true rfl) kl_1 rfl (rk_3_1 io_2) ?_
    refine c_X2_putWorth (rk_3_1 io_2) hG2 (by omega) (by omega) ⟨by omega, by omega⟩ ?_
    have e1 : (ynt y T (nb_ T n a) (wl__ T n a)) 1 = y 1 := ynt_ne (by omega) (by omega) (by omega)
    have R9 := rs_fu (k := y 0 0) (w := dv_ T n (wn_ T n a)) E RhG2 (by unfold zok; omega)
    rw [e1] at R9
    exact s_return dX4_readThing_56 rfl (ot_ok K (by rw [zput_ne (by omega), ynt_0, fu_ne (by omega)]) (by omega) (by omega) R9)
set_option maxRecDepth 100000 in
set_option maxHeartbeats 4000000 in
theorem c_X4_readPerson {c : Int} (hc : c = 0 ∨ c = 1) (hd : 11 ≤ d) (E : EV_ h0 v n T) (RhG : RS_ h0 v n (y 0 1) a s y h) (a0 : 0 ≤ a) (a1 : a ≤ n) (s0 : 0 ≤ s) (s1 : s ≤ 400) (K : OT_ Q bc bs h0 v n (pPerson c T n s a y))  : Cl_ yX4_readPerson MX4_readPerson d bc bs [(2, 2), (0, c)] nN h Q := by
  refine s_enter pn_X4 rfl (Nat.le_of_ble_eq_true rfl) (L := [(2, _), (0, _)]) rfl ?_
  have hG := RhG.1.1
  have dhG := RhG.2.1
  have phG := RhG.2.2.1.1
  have hn := E.2.1
  have W := ev_w E
  have i2 := RhG.2.2.2.2.2.2.1
  have iT := i2.1
  have iP := i2.2.1
  have iG := i2.2.2
  unfold pPerson at K
  have w1 := wn_bd (T := T) (n := n) (a := a) (by omega)
  refine s_aload_n dX4_readPerson_0 rfl ?_
  refine s_aload_n dX4_readPerson_1 rfl ?_
  refine s_getr dX4_readPerson_2 fl_X4_12 kl_3 (by decide) rfl io_2 (z := 0) rfl RhG.1.2.2 (W).1 ?_
  refine s_getr dX4_readPerson_5 fl_X4_131 kl_5 (by decide) rfl W (z := 3) rfl (rf_5_3 hG.1 W) (rk_5_3 W).1 ?_
  refine s_geti dX4_readPerson_8 fl_X4_119 kl_2 (by decide) rfl (rk_5_3 W) (z := 1) rfl ?_
  refine s_bipush dX4_readPerson_11 (by decide) ?_
  refine s_icmp_ge (tgt := 20) dX4_readPerson_13 (by decide) (by first | exact hG.2 _ _ | exact b01_in _ | assumption | exact ⟨by omega, by omega⟩) (by first | exact hG.2 _ _ | exact b01_in _ | assumption | exact ⟨by omega, by omega⟩) (fun c1 => ?_) (fun c1 => ?_)
  · refine s_iconst dX4_readPerson_20 ?_
    refine s_aload_n dX4_readPerson_21 rfl ?_
    refine s_geti dX4_readPerson_22 fl_X4_105 kl_3 (by decide) rfl io_2 (z := 6) rfl ?_
    
    refine s_callP (as := [_, _]) (y 0 1 < 12) (fun q => (ot_x (ot_f K q) (by omega)).1) dX4_readPerson_25 vf_X4_108 (dd_ (by omega) (by decide)) rfl rfl (Nat.le_of_ble_eq_true rfl) kl_3 rfl io_2 (fun b1 b2 Q1 hb1 k1 kx1 => ?_)
    exact c_X4_demand (by omega) (fun q => hb1 (by omega)) RhG (hG.2 _ _) (Or.inl rfl) (f := s) (by omega) (by omega) (fun q => absurd rfl q) (fun q h' X => kx1 _ _ _ (by omega) ((ot_x (ot_f K (by omega)) (by omega)).2 h' X))
  · refine s_iconst dX4_readPerson_16 ?_
    refine s_goto (tgt := 21) dX4_readPerson_17 (by decide) ?_
    refine s_aload_n dX4_readPerson_21 rfl ?_
    refine s_geti dX4_readPerson_22 fl_X4_105 kl_3 (by decide) rfl io_2 (z := 6) rfl ?_
    
    refine s_callP (as := [_, _]) (y 0 1 < 12) (fun q => (ot_x (ot_f K q) (by omega)).1) dX4_readPerson_25 vf_X4_108 (dd_ (by omega) (by decide)) rfl rfl (Nat.le_of_ble_eq_true rfl) kl_3 rfl io_2 (fun b1 b2 Q1 hb1 k1 kx1 => ?_)
    refine c_X4_demand (by omega) (fun q => absurd q (by decide)) RhG (hG.2 _ _) (Or.inr rfl) (f := s) (by omega) (by omega) (fun q => k1 _ _ _ (by omega) ?_) (fun q => absurd q (by decide))
    have K := ot_t K (show y 0 1 < 12 from (by omega))
    refine s_aload_n dX4_readPerson_28 rfl ?_
    refine s_getr dX4_readPerson_29 fl_X4_12 kl_3 (by decide) rfl io_2 (z := 0) rfl RhG.1.2.2 (W).1 ?_
    refine s_aload_n dX4_readPerson_32 rfl ?_
    refine s_aload_n dX4_readPerson_33 rfl ?_
    refine s_getr dX4_readPerson_34 fl_X4_12 kl_3 (by decide) rfl io_2 (z := 0) rfl RhG.1.2.2 (W).1 ?_
    refine s_getr dX4_readPerson_37 fl_X4_131 kl_5 (by decide) rfl W (z := 3) rfl (rf_5_3 hG.1 W) (rk_5_3 W).1 ?_
    
    refine s_callP (as := [_]) (okU T n a ∧ tP y T n a = -1) (fun q => (ot_x (ot_f K q) (by omega)).1) dX4_readPerson_40 vf_X4_124 (dd_ (by omega) (by decide)) rfl rfl (Nat.le_of_ble_eq_true rfl) kl_3 rfl io_2 (fun b1 b2 Q1 hb1 k1 kx1 => ?_)
    refine c_X4_takeNewNameP (by omega) (by omega) (fun q => hb1 q) E RhG (by omega) (by omega) (fun okhG1 hhG1 RhG1 => k1 _ _ _ okhG1 ?_) (fun q h' X => kx1 _ _ _ q ((ot_x (ot_f K q) (by omega)).2 h' X))
    have hG1 := RhG1.1.1
    have dhG1 := RhG1.2.1
    have phG1 := RhG1.2.2.1.1
    have K := ot_t K okhG1
    refine s_iconst dX4_readPerson_43 ?_
    refine s_iload_n dX4_readPerson_44 rfl ?_
    refine s_callV (d' := d - 1) (bc' := 0) (bs' := 0) (as := [_, _, _]) dX4_readPerson_45 vf_X4_134 (dd_ (by omega) (by decide)) ⟨Nat.zero_le _, Nat.zero_le _⟩ rfl rfl (Nat.le_of_ble_eq_true rfl) kl_5 rfl W ?_
    refine c_X6_putPerson W hG1 (by omega) (by omega) (by omega) (by omega) hc ?_
    have R9 := rs_pu (q := -1) (c := c) E RhG1 (by rw [ynp_0, fu_eq]) (by omega) (by omega) hc (fun _ => rfl)
    exact s_return dX4_readPerson_48 rfl (ot_ok K (by rw [ypa_ne (by omega) (by omega), ynp_0, fu_eq]) (by omega) (by omega) R9)
set_option maxRecDepth 100000 in
set_option maxHeartbeats 4000000 in
theorem c_X4_readIssue  (hd : 11 ≤ d) (E : EV_ h0 v n T) (RhG : RS_ h0 v n (y 0 1) a s y h) (a0 : 0 ≤ a) (a1 : a ≤ n) (s0 : 0 ≤ s) (s1 : s ≤ 400) (K : OT_ Q bc bs h0 v n (pIssue T n s a y))  : Cl_ yX4_readIssue MX4_readIssue d bc bs [(2, 2)] nN h Q := by
  refine s_enter pn_X4 rfl (Nat.le_of_ble_eq_true rfl) (L := [(2, _), (9, 0), (9, 0)]) rfl ?_
  have hG := RhG.1.1
  have dhG := RhG.2.1
  have phG := RhG.2.2.1.1
  have hn := E.2.1
  have W := ev_w E
  have i2 := RhG.2.2.2.2.2.2.1
  have iT := i2.1
  have iP := i2.2.1
  have iG := i2.2.2
  unfold pIssue at K
  have tpn := tP_np (y := y) (T := T) (n := n) (p := nb_ T n a) (l := wl__ T n a) (b := wn_ T n (wn_ T n a)) iP.1
  have w1 := wn_bd (T := T) (n := n) (a := a) (by omega)
  have w2 := wn_bd (T := T) (n := n) (a := wn_ T n a) (by omega)
  have w3 := wn_bd (T := T) (n := n) (a := (wn_ T n (wn_ T n a))) (by omega)
  refine s_aload_n dX4_readIssue_0 rfl ?_
  refine s_aload_n dX4_readIssue_1 rfl ?_
  refine s_getr dX4_readIssue_2 fl_X4_12 kl_3 (by decide) rfl io_2 (z := 0) rfl RhG.1.2.2 (W).1 ?_
  refine s_getr dX4_readIssue_5 fl_X4_131 kl_5 (by decide) rfl W (z := 3) rfl (rf_5_3 hG.1 W) (rk_5_3 W).1 ?_
  refine s_geti dX4_readIssue_8 fl_X4_119 kl_2 (by decide) rfl (rk_5_3 W) (z := 1) rfl ?_
  refine s_bipush dX4_readIssue_11 (by decide) ?_
  refine s_icmp_ge (tgt := 20) dX4_readIssue_13 (by decide) (by first | exact hG.2 _ _ | exact b01_in _ | assumption | exact ⟨by omega, by omega⟩) (by first | exact hG.2 _ _ | exact b01_in _ | assumption | exact ⟨by omega, by omega⟩) (fun c1 => ?_) (fun c1 => ?_)
  · refine s_iconst dX4_readIssue_20 ?_
    refine s_aload_n dX4_readIssue_21 rfl ?_
    refine s_geti dX4_readIssue_22 fl_X4_105 kl_3 (by decide) rfl io_2 (z := 6) rfl ?_
    
    refine s_callP (as := [_, _]) (y 0 1 < 12) (fun q => (ot_x (ot_f K q) (by omega)).1) dX4_readIssue_25 vf_X4_108 (dd_ (by omega) (by decide)) rfl rfl (Nat.le_of_ble_eq_true rfl) kl_3 rfl io_2 (fun b1 b2 Q1 hb1 k1 kx1 => ?_)
    exact c_X4_demand (by omega) (fun q => hb1 (by omega)) RhG (hG.2 _ _) (Or.inl rfl) (f := s) (by omega) (by omega) (fun q => absurd rfl q) (fun q h' X => kx1 _ _ _ (by omega) ((ot_x (ot_f K (by omega)) (by omega)).2 h' X))
  · refine s_iconst dX4_readIssue_16 ?_
    refine s_goto (tgt := 21) dX4_readIssue_17 (by decide) ?_
    refine s_aload_n dX4_readIssue_21 rfl ?_
    refine s_geti dX4_readIssue_22 fl_X4_105 kl_3 (by decide) rfl io_2 (z := 6) rfl ?_
    
    refine s_callP (as := [_, _]) (y 0 1 < 12) (fun q => (ot_x (ot_f K q) (by omega)).1) dX4_readIssue_25 vf_X4_108 (dd_ (by omega) (by decide)) rfl rfl (Nat.le_of_ble_eq_true rfl) kl_3 rfl io_2 (fun b1 b2 Q1 hb1 k1 kx1 => ?_)
    refine c_X4_demand (by omega) (fun q => absurd q (by decide)) RhG (hG.2 _ _) (Or.inr rfl) (f := s) (by omega) (by omega) (fun q => k1 _ _ _ (by omega) ?_) (fun q => absurd q (by decide))
    have K := ot_t K (show y 0 1 < 12 from (by omega))
    refine s_aload_n dX4_readIssue_28 rfl ?_
    refine s_aload_n dX4_readIssue_29 rfl ?_
    refine s_getr dX4_readIssue_30 fl_X4_12 kl_3 (by decide) rfl io_2 (z := 0) rfl RhG.1.2.2 (W).1 ?_
    refine s_getr dX4_readIssue_33 fl_X4_131 kl_5 (by decide) rfl W (z := 3) rfl (rf_5_3 hG.1 W) (rk_5_3 W).1 ?_
    
    refine s_callP (as := [_]) (okU T n a ∧ tP y T n a = -1) (fun q => (ot_x (ot_f K q) (by omega)).1) dX4_readIssue_36 vf_X4_124 (dd_ (by omega) (by decide)) rfl rfl (Nat.le_of_ble_eq_true rfl) kl_3 rfl io_2 (fun b1 b2 Q1 hb1 k1 kx1 => ?_)
    refine c_X4_takeNewNameP (by omega) (by omega) (fun q => hb1 q) E RhG (by omega) (by omega) (fun okhG1 hhG1 RhG1 => k1 _ _ _ okhG1 ?_) (fun q h' X => kx1 _ _ _ q ((ot_x (ot_f K q) (by omega)).2 h' X))
    have hG1 := RhG1.1.1
    have dhG1 := RhG1.2.1
    have phG1 := RhG1.2.2.1.1
    have K := ot_t K okhG1
    refine s_istore_n dX4_readIssue_39 (by decide) rfl (L' := [_, _, _]) rfl ?_
    refine s_aload_n dX4_readIssue_40 rfl ?_
    refine s_getsr dX4_readIssue_41 (C := "WillHouse$Word") (nm := "OF") (ds := "LWillHouse$Word;") (ref := "") (z := 1206) (by decide +kernel) fl_X4_138 ?_
    
    refine s_callP (as := [_]) (okW T n (wn_ T n a) 6) (fun q => (ot_x (ot_f K q) (by omega)).1) dX4_readIssue_44 vf_X4_142 (dd_ (by omega) (by decide)) rfl rfl (Nat.le_of_ble_eq_true rfl) kl_3 rfl io_2 (fun b1 b2 Q1 hb1 k1 kx1 => ?_)
    refine c_X4_takeThis (j := 6) (by decide) (by omega) (fun q => hb1 q) E RhG1 (by omega) (by omega) (fun okhG2 hhG2 RhG2 => k1 _ _ _ okhG2 ?_) (fun q h' X => kx1 _ _ _ q ((ot_x (ot_f K q) (by omega)).2 h' X))
    have hG2 := RhG2.1.1
    have dhG2 := RhG2.2.1
    have phG2 := RhG2.2.2.1.1
    have K := ot_t K okhG2
    refine s_aload_n dX4_readIssue_47 rfl ?_
    refine s_aload_n dX4_readIssue_48 rfl ?_
    refine s_getr dX4_readIssue_49 fl_X4_12 kl_3 (by decide) rfl io_2 (z := 0) rfl RhG2.1.2.2 (W).1 ?_
    refine s_getr dX4_readIssue_52 fl_X4_131 kl_5 (by decide) rfl W (z := 3) rfl (rf_5_3 hG2.1 W) (rk_5_3 W).1 ?_
    
    refine s_callP (as := [_]) (¬ tP (ynp y T (nb_ T n a) (wl__ T n a)) T n (wn_ T n (wn_ T n a)) = -1) (fun q => (ot_x (ot_g K (tpn.1 (Or.inl (nn_e q)))) (by omega)).1) dX4_readIssue_55 vf_X4_146 (dd_ (by omega) (by decide)) rfl rfl (Nat.le_of_ble_eq_true rfl) kl_3 rfl io_2 (fun b1 b2 Q1 hb1 k1 kx1 => ?_)
    refine c_X4_takeToldNameP (by omega) (fun q => hb1 q) E RhG2 (by omega) (by omega) (fun okhG3 hhG3 RhG3 => k1 _ _ _ okhG3 ?_) (fun q h' X => kx1 _ _ _ q ((ot_x (ot_g K (tpn.1 (Or.inl (nn_e q)))) (by omega)).2 h' X))
    have hG3 := RhG3.1.1
    have dhG3 := RhG3.2.1
    have phG3 := RhG3.2.2.1.1
    refine s_istore_n dX4_readIssue_58 (by decide) rfl (L' := [_, _, _]) rfl ?_
    refine s_aload_n dX4_readIssue_59 rfl ?_
    refine s_iload_n dX4_readIssue_60 rfl ?_
    refine s_iload_n dX4_readIssue_61 rfl ?_
    refine s_icmp_eq (tgt := 69) dX4_readIssue_62 (by decide) (by first | exact hG3.2 _ _ | exact hG.2 _ _ | exact b01_in _ | assumption | exact ⟨by omega, by omega⟩) (by first | exact hG3.2 _ _ | exact hG.2 _ _ | exact b01_in _ | assumption | exact ⟨by omega, by omega⟩) (fun c2 => ?_) (fun c2 => ?_)
    · refine s_iconst dX4_readIssue_69 ?_
      refine s_aload_n dX4_readIssue_70 rfl ?_
      refine s_geti dX4_readIssue_71 fl_X4_105 kl_3 (by decide) rfl io_2 (z := 6) rfl ?_
      
      refine s_callP (as := [_, _]) (¬ tP (ynp y T (nb_ T n a) (wl__ T n a)) T n (wn_ T n (wn_ T n a)) = y 0 1) (fun q => (ot_x (ot_g K (tpn.1 (Or.inr (nn_e q)))) (by omega)).1) dX4_readIssue_74 vf_X4_108 (dd_ (by omega) (by decide)) rfl rfl (Nat.le_of_ble_eq_true rfl) kl_3 rfl io_2 (fun b1 b2 Q1 hb1 k1 kx1 => ?_)
      exact c_X4_demand (by omega) (fun q => hb1 (by omega)) RhG3 (hG3.2 _ _) (Or.inl rfl) (f := nb_ T n (wn_ T n (wn_ T n a))) (by omega) (by omega) (fun q => absurd rfl q) (fun q h' X => kx1 _ _ _ (by omega) ((ot_x (ot_g K (tpn.1 (Or.inr (nn_e (by omega))))) (by omega)).2 h' X))
    · refine s_iconst dX4_readIssue_65 ?_
      refine s_goto (tgt := 70) dX4_readIssue_66 (by decide) ?_
      refine s_aload_n dX4_readIssue_70 rfl ?_
      refine s_geti dX4_readIssue_71 fl_X4_105 kl_3 (by decide) rfl io_2 (z := 6) rfl ?_
      
      refine s_callP (as := [_, _]) (¬ tP (ynp y T (nb_ T n a) (wl__ T n a)) T n (wn_ T n (wn_ T n a)) = y 0 1) (fun q => (ot_x (ot_g K (tpn.1 (Or.inr (nn_e q)))) (by omega)).1) dX4_readIssue_74 vf_X4_108 (dd_ (by omega) (by decide)) rfl rfl (Nat.le_of_ble_eq_true rfl) kl_3 rfl io_2 (fun b1 b2 Q1 hb1 k1 kx1 => ?_)
      refine c_X4_demand (by omega) (fun q => absurd q (by decide)) RhG3 (hG3.2 _ _) (Or.inr rfl) (f := nb_ T n (wn_ T n (wn_ T n a))) (by omega) (by omega) (fun q => k1 _ _ _ (by omega) ?_) (fun q => absurd q (by decide))
      have tq := tpn.2 (by assumption) (by omega)
      have K := ot_u K (by omega)
      refine s_aload_n dX4_readIssue_77 rfl ?_
      refine s_getr dX4_readIssue_78 fl_X4_12 kl_3 (by decide) rfl io_2 (z := 0) rfl RhG3.1.2.2 (W).1 ?_
      refine s_iload_n dX4_readIssue_81 rfl ?_
      refine s_iload_n dX4_readIssue_82 rfl ?_
      refine s_iconst dX4_readIssue_83 ?_
      refine s_callV (d' := d - 1) (bc' := 0) (bs' := 0) (as := [_, _, _]) dX4_readIssue_84 vf_X4_134 (dd_ (by omega) (by decide)) ⟨Nat.zero_le _, Nat.zero_le _⟩ rfl rfl (Nat.le_of_ble_eq_true rfl) kl_5 rfl W ?_
      refine c_X6_putPerson W hG3 (by omega) (by omega) (by omega) (by omega) (Or.inl rfl) ?_
      have R9 := rs_pu (q := tP (ynp y T (nb_ T n a) (wl__ T n a)) T n (wn_ T n (wn_ T n a))) (c := 0) E RhG3 (by rw [ynp_0, fu_eq]) (by omega) (by omega) (Or.inl rfl) (fun z => absurd rfl z)
      rw [tq.1] at R9 ⊢
      exact s_return dX4_readIssue_87 rfl (ot_ok K (by rw [ypa_ne (by omega) (by omega), ynp_0, fu_eq]) (by omega) (by omega) R9)
set_option maxRecDepth 100000 in
set_option maxHeartbeats 4000000 in
theorem c_X4_readSold  (hd : 11 ≤ d) (E : EV_ h0 v n T) (RhG : RS_ h0 v n (y 0 1) a s y h) (a0 : 0 ≤ a) (a1 : a ≤ n) (s0 : 0 ≤ s) (s1 : s ≤ 400) (K : OT_ Q bc bs h0 v n (pSold T n a y))  : Cl_ yX4_readSold MX4_readSold d bc bs [(2, 2)] nN h Q := by
  refine s_enter pn_X4 rfl (Nat.le_of_ble_eq_true rfl) (L := [(2, _), (9, 0), (9, 0), (9, 0)]) rfl ?_
  have hG := RhG.1.1
  have dhG := RhG.2.1
  have phG := RhG.2.2.1.1
  have hn := E.2.1
  have W := ev_w E
  have i2 := RhG.2.2.2.2.2.2.1
  have iT := i2.1
  have iP := i2.2.1
  have iG := i2.2.2
  unfold pSold at K
  have B56 := RhG.2.2.2.2.2.1.2.2.1
  have w1 := wn_bd (T := T) (n := n) (a := a) (by omega)
  have w2 := dn_bd (T := T) (n := n) (a := wn_ T n a) (by omega)
  have v2 := nv_bd (T := T) (n := n) (s := nb_ T n (wn_ T n a))
  have w3 := wn_bd (T := T) (n := n) (a := (dn_ T n (wn_ T n a))) (by omega)
  have w4 := dn_bd (T := T) (n := n) (a := (wn_ T n (dn_ T n (wn_ T n a)))) (by omega)
  have v4 := nv_bd (T := T) (n := n) (s := nb_ T n ((wn_ T n (dn_ T n (wn_ T n a)))))
  refine s_aload_n dX4_readSold_0 rfl ?_
  refine s_aload_n dX4_readSold_1 rfl ?_
  refine s_getr dX4_readSold_2 fl_X4_12 kl_3 (by decide) rfl io_2 (z := 0) rfl RhG.1.2.2 (W).1 ?_
  refine s_getr dX4_readSold_5 fl_X4_115 kl_5 (by decide) rfl W (z := 0) rfl (rf_5_0 hG.1 W) (rk_5_0 W).1 ?_
  
  refine s_callP (as := [_]) (¬ tT y T n a = -1) (fun q => (ot_x (ot_f K (fun z => q z.1)) (by omega)).1) dX4_readSold_8 vf_X4_146 (dd_ (by omega) (by decide)) rfl rfl (Nat.le_of_ble_eq_true rfl) kl_3 rfl io_2 (fun b1 b2 Q1 hb1 k1 kx1 => ?_)
  refine c_X4_takeToldNameT (by omega) (fun q => hb1 q) E RhG (by omega) (by omega) (fun okhG1 hhG1 RhG1 => k1 _ _ _ okhG1 ?_) (fun q h' X => kx1 _ _ _ q ((ot_x (ot_f K (fun z => q z.1)) (by omega)).2 h' X))
  have hG1 := RhG1.1.1
  have dhG1 := RhG1.2.1
  have phG1 := RhG1.2.2.1.1
  have tb := tT_bd y T n a
  have tk := okhG1
  refine s_istore_n dX4_readSold_11 (by decide) rfl (L' := [_, _, _, _]) rfl ?_
  refine s_aload_n dX4_readSold_12 rfl ?_
  refine s_aload_n dX4_readSold_13 rfl ?_
  refine s_getr dX4_readSold_14 fl_X4_21 kl_3 (by decide) rfl io_2 (z := 1) rfl (rf_3_1 hG1.1 io_2) (rk_3_1 io_2).1 ?_
  refine s_iload_n dX4_readSold_17 rfl ?_
  refine s_callV (d' := d - 1) (bc' := 0) (bs' := 0) (as := [_]) dX4_readSold_18 vf_X4_169 (dd_ (by omega) (by decide)) ⟨Nat.zero_le _, Nat.zero_le _⟩ rfl rfl (Nat.le_of_ble_eq_true rfl) kl_1 rfl (rk_3_1 io_2) ?_
  refine c_X2_isHeld (rk_3_1 io_2) hG1 (by omega) (by omega) ?_
  rw [RhG1.2.2.1.2.1 _ (by omega) (by omega)]
  refine s_aload_n dX4_readSold_21 rfl ?_
  refine s_geti dX4_readSold_22 fl_X4_105 kl_3 (by decide) rfl io_2 (z := 6) rfl ?_
  
  refine s_callP (as := [_, _]) (y 1 (8 + tT y T n a) = 0) (fun q => (ot_x (ot_f K (fun z => q z.2)) (by omega)).1) dX4_readSold_25 vf_X4_108 (dd_ (by omega) (by decide)) rfl rfl (Nat.le_of_ble_eq_true rfl) kl_3 rfl io_2 (fun b1 b2 Q1 hb1 k1 kx1 => ?_)
  refine c_X4_demand (by omega) (fun q => hb1 (b01_0.mp q)) RhG1 (hG1.2 _ _) (b01_or _) (f := nb_ T n a) (by omega) (by omega) (fun q => ?_) (fun q h' X => kx1 _ _ _ (b01_0.mp q) ((ot_x (ot_f K (fun z => (b01_0.mp q) z.2)) (by omega)).2 h' X))
  have ok9 := b01_n.mp q
  refine k1 _ _ _ ok9 ?_
  have K := ot_t K (show okH T n a y from ⟨tk, ok9⟩)
  refine s_aload_n dX4_readSold_28 rfl ?_
  refine s_iconst dX4_readSold_29 ?_
  refine s_sipush dX4_readSold_30 (by decide) ?_
  
  refine s_callP (as := [_, _]) (okN T n (wn_ T n a) 1 9999) (fun q => (ot_x (ot_f K q) (by omega)).1) dX4_readSold_33 vf_X4_71 (dd_ (by omega) (by decide)) rfl rfl (Nat.le_of_ble_eq_true rfl) kl_3 rfl io_2 (fun b1 b2 Q1 hb1 k1 kx1 => ?_)
  refine c_X4_takeNumber (by omega) ⟨by omega, by omega⟩ ⟨by omega, by omega⟩ (fun q => hb1 q) E RhG1 (by omega) (by omega) (fun okhG2 hhG2 RhG2 => k1 _ _ _ okhG2 ?_) (fun q h' X => kx1 _ _ _ q ((ot_x (ot_f K q) (by omega)).2 h' X))
  have hG2 := RhG2.1.1
  have dhG2 := RhG2.2.1
  have phG2 := RhG2.2.2.1.1
  have K := ot_t K okhG2
  have ohG2 := okhG2.2
  refine s_istore_n dX4_readSold_36 (by decide) rfl (L' := [_, _, _, _]) rfl ?_
  refine s_aload_n dX4_readSold_37 rfl ?_
  refine s_getsr dX4_readSold_38 (C := "WillHouse$Word") (nm := "OWED") (ds := "LWillHouse$Word;") (ref := "") (z := 1214) (by decide +kernel) fl_X4_173 ?_
  
  refine s_callP (as := [_]) (okW T n (dn_ T n (wn_ T n a)) 14) (fun q => (ot_x (ot_f K q) (by omega)).1) dX4_readSold_41 vf_X4_142 (dd_ (by omega) (by decide)) rfl rfl (Nat.le_of_ble_eq_true rfl) kl_3 rfl io_2 (fun b1 b2 Q1 hb1 k1 kx1 => ?_)
  refine c_X4_takeThis (j := 14) (by decide) (by omega) (fun q => hb1 q) E RhG2 (by omega) (by omega) (fun okhG3 hhG3 RhG3 => k1 _ _ _ okhG3 ?_) (fun q h' X => kx1 _ _ _ q ((ot_x (ot_f K q) (by omega)).2 h' X))
  have hG3 := RhG3.1.1
  have dhG3 := RhG3.2.1
  have phG3 := RhG3.2.2.1.1
  have K := ot_t K okhG3
  refine s_aload_n dX4_readSold_44 rfl ?_
  refine s_iconst dX4_readSold_45 ?_
  refine s_iload_n dX4_readSold_46 rfl ?_
  
  refine s_callP (as := [_, _]) (okN T n (wn_ T n (dn_ T n (wn_ T n a))) 0 (dv_ T n (wn_ T n a))) (fun q => (ot_x (ot_f K (fun z => q z.1)) (by omega)).1) dX4_readSold_47 vf_X4_71 (dd_ (by omega) (by decide)) rfl rfl (Nat.le_of_ble_eq_true rfl) kl_3 rfl io_2 (fun b1 b2 Q1 hb1 k1 kx1 => ?_)
  refine c_X4_takeNumber (by omega) ⟨by omega, by omega⟩ ⟨by omega, by omega⟩ (fun q => hb1 q) E RhG3 (by omega) (by omega) (fun okhG4 hhG4 RhG4 => k1 _ _ _ okhG4 ?_) (fun q h' X => kx1 _ _ _ q ((ot_x (ot_f K (fun z => q z.1)) (by omega)).2 h' X))
  have hG4 := RhG4.1.1
  have dhG4 := RhG4.2.1
  have phG4 := RhG4.2.2.1.1
  have ohG4 := okhG4.2
  have on := okhG4
  refine s_istore_n dX4_readSold_50 (by decide) rfl (L' := [_, _, _, _]) rfl ?_
  refine s_aload_n dX4_readSold_51 rfl ?_
  refine s_aload_n dX4_readSold_52 rfl ?_
  refine s_getr dX4_readSold_53 fl_X4_21 kl_3 (by decide) rfl io_2 (z := 1) rfl (rf_3_1 hG4.1 io_2) (rk_3_1 io_2).1 ?_
  refine s_iconst dX4_readSold_56 ?_
  refine s_callV (d' := d - 1) (bc' := 0) (bs' := 0) (as := [_]) dX4_readSold_57 vf_X4_176 (dd_ (by omega) (by decide)) ⟨Nat.zero_le _, Nat.zero_le _⟩ rfl rfl (Nat.le_of_ble_eq_true rfl) kl_1 rfl (rk_3_1 io_2) ?_
  refine c_X2_told (rk_3_1 io_2) hG4 (by omega) (by omega) ?_
  rw [show (56 + 0 : Int) = 56 by omega, RhG4.2.2.1.2.1 56 (by omega) (by omega)]
  refine s_iload_n dX4_readSold_60 rfl ?_
  refine s_iadd dX4_readSold_61 ?_
  refine s_iload_n dX4_readSold_62 rfl ?_
  refine s_isub dX4_readSold_63 ?_
  refine s_ldc dX4_readSold_64 kc_X4_180 ?_
  refine s_icmp_gt (tgt := 73) dX4_readSold_66 (by decide) (by first | exact hG4.2 _ _ | exact hG.2 _ _ | exact b01_in _ | assumption | exact ⟨by omega, by omega⟩) (by first | exact hG4.2 _ _ | exact hG.2 _ _ | exact b01_in _ | assumption | exact ⟨by omega, by omega⟩) (fun c1 => ?_) (fun c1 => ?_)
  · refine s_iconst dX4_readSold_73 ?_
    refine s_aload_n dX4_readSold_74 rfl ?_
    refine s_geti dX4_readSold_75 fl_X4_105 kl_3 (by decide) rfl io_2 (z := 6) rfl ?_
    
    refine s_callP (as := [_, _]) (y 1 56 + dv_ T n (wn_ T n a) - dv_ T n (wn_ T n (dn_ T n (wn_ T n a))) ≤ 99999) (fun q => (ot_x (ot_f K (fun z => q z.2)) (by omega)).1) dX4_readSold_78 vf_X4_108 (dd_ (by omega) (by decide)) rfl rfl (Nat.le_of_ble_eq_true rfl) kl_3 rfl io_2 (fun b1 b2 Q1 hb1 k1 kx1 => ?_)
    exact c_X4_demand (by omega) (fun q => hb1 (by omega)) RhG4 (hG4.2 _ _) (Or.inl rfl) (f := nb_ T n (wn_ T n (dn_ T n (wn_ T n a)))) (by omega) (by omega) (fun q => absurd rfl q) (fun q h' X => kx1 _ _ _ (by omega) ((ot_x (ot_f K (fun z => absurd z.2 (by omega))) (by omega)).2 h' X))
  · refine s_iconst dX4_readSold_69 ?_
    refine s_goto (tgt := 74) dX4_readSold_70 (by decide) ?_
    refine s_aload_n dX4_readSold_74 rfl ?_
    refine s_geti dX4_readSold_75 fl_X4_105 kl_3 (by decide) rfl io_2 (z := 6) rfl ?_
    
    refine s_callP (as := [_, _]) (y 1 56 + dv_ T n (wn_ T n a) - dv_ T n (wn_ T n (dn_ T n (wn_ T n a))) ≤ 99999) (fun q => (ot_x (ot_f K (fun z => q z.2)) (by omega)).1) dX4_readSold_78 vf_X4_108 (dd_ (by omega) (by decide)) rfl rfl (Nat.le_of_ble_eq_true rfl) kl_3 rfl io_2 (fun b1 b2 Q1 hb1 k1 kx1 => ?_)
    refine c_X4_demand (by omega) (fun q => absurd q (by decide)) RhG4 (hG4.2 _ _) (Or.inr rfl) (f := nb_ T n (wn_ T n (dn_ T n (wn_ T n a)))) (by omega) (by omega) (fun q => k1 _ _ _ (by omega) ?_) (fun q => absurd q (by decide))
    have K := ot_t K ⟨on, show y 1 56 + dv_ T n (wn_ T n a) - dv_ T n (wn_ T n (dn_ T n (wn_ T n a))) ≤ 99999 by omega⟩
    refine s_aload_n dX4_readSold_81 rfl ?_
    refine s_getr dX4_readSold_82 fl_X4_21 kl_3 (by decide) rfl io_2 (z := 1) rfl (rf_3_1 hG4.1 io_2) (rk_3_1 io_2).1 ?_
    refine s_iload_n dX4_readSold_85 rfl ?_
    refine s_iload_n dX4_readSold_86 rfl ?_
    refine s_iload_n dX4_readSold_87 rfl ?_
    refine s_callV (d' := d - 1) (bc' := 0) (bs' := 0) (as := [_, _, _]) dX4_readSold_88 vf_X4_181 (dd_ (by omega) (by decide)) ⟨Nat.zero_le _, Nat.zero_le _⟩ rfl rfl (Nat.le_of_ble_eq_true rfl) kl_1 rfl (rk_3_1 io_2) ?_
    refine c_X2_putSold (rk_3_1 io_2) hG4 (by omega) (by omega) ⟨by omega, by omega⟩ ⟨by omega, by omega⟩ (by rw [RhG4.2.2.1.2.1 56 (by omega) (by omega)]; exact ⟨by omega, by omega⟩) ?_
    exact s_return dX4_readSold_91 rfl (ot_ok K (by rw [zput_ne (by omega)]) (by omega) (by omega) (rs_fs E RhG4 (by omega) (by omega) (by omega) (by omega) (by omega) (by omega) (by omega) (RhG4.2.2.1.2.1 56 (by omega) (by omega))))
set_option maxRecDepth 100000 in
set_option maxHeartbeats 4000000 in
theorem c_X4_readChanged  (hd : 11 ≤ d) (E : EV_ h0 v n T) (RhG : RS_ h0 v n (y 0 1) a s y h) (a0 : 0 ≤ a) (a1 : a ≤ n) (s0 : 0 ≤ s) (s1 : s ≤ 400) (K : OT_ Q bc bs h0 v n (pChanged T n a y))  : Cl_ yX4_readChanged MX4_readChanged d bc bs [(2, 2)] nN h Q := by
  refine s_enter pn_X4 rfl (Nat.le_of_ble_eq_true rfl) (L := [(2, _), (9, 0)]) rfl ?_
  have hG := RhG.1.1
  have dhG := RhG.2.1
  have phG := RhG.2.2.1.1
  have hn := E.2.1
  have W := ev_w E
  have i2 := RhG.2.2.2.2.2.2.1
  have iT := i2.1
  have iP := i2.2.1
  have iG := i2.2.2
  unfold pChanged at K
  have w1 := wn_bd (T := T) (n := n) (a := a) (by omega)
  have w2 := dn_bd (T := T) (n := n) (a := wn_ T n a) (by omega)
  have v2 := nv_bd (T := T) (n := n) (s := nb_ T n (wn_ T n a))
  refine s_aload_n dX4_readChanged_0 rfl ?_
  refine s_aload_n dX4_readChanged_1 rfl ?_
  refine s_getr dX4_readChanged_2 fl_X4_12 kl_3 (by decide) rfl io_2 (z := 0) rfl RhG.1.2.2 (W).1 ?_
  refine s_getr dX4_readChanged_5 fl_X4_115 kl_5 (by decide) rfl W (z := 0) rfl (rf_5_0 hG.1 W) (rk_5_0 W).1 ?_
  
  refine s_callP (as := [_]) (¬ tT y T n a = -1) (fun q => (ot_x (ot_f K (fun z => q z.1)) (by omega)).1) dX4_readChanged_8 vf_X4_146 (dd_ (by omega) (by decide)) rfl rfl (Nat.le_of_ble_eq_true rfl) kl_3 rfl io_2 (fun b1 b2 Q1 hb1 k1 kx1 => ?_)
  refine c_X4_takeToldNameT (by omega) (fun q => hb1 q) E RhG (by omega) (by omega) (fun okhG1 hhG1 RhG1 => k1 _ _ _ okhG1 ?_) (fun q h' X => kx1 _ _ _ q ((ot_x (ot_f K (fun z => q z.1)) (by omega)).2 h' X))
  have hG1 := RhG1.1.1
  have dhG1 := RhG1.2.1
  have phG1 := RhG1.2.2.1.1
  have tb := tT_bd y T n a
  have tk := okhG1
  refine s_istore_n dX4_readChanged_11 (by decide) rfl (L' := [_, _]) rfl ?_
  refine s_aload_n dX4_readChanged_12 rfl ?_
  refine s_aload_n dX4_readChanged_13 rfl ?_
  refine s_getr dX4_readChanged_14 fl_X4_21 kl_3 (by decide) rfl io_2 (z := 1) rfl (rf_3_1 hG1.1 io_2) (rk_3_1 io_2).1 ?_
  refine s_iload_n dX4_readChanged_17 rfl ?_
  refine s_callV (d' := d - 1) (bc' := 0) (bs' := 0) (as := [_]) dX4_readChanged_18 vf_X4_169 (dd_ (by omega) (by decide)) ⟨Nat.zero_le _, Nat.zero_le _⟩ rfl rfl (Nat.le_of_ble_eq_true rfl) kl_1 rfl (rk_3_1 io_2) ?_
  refine c_X2_isHeld (rk_3_1 io_2) hG1 (by omega) (by omega) ?_
  rw [RhG1.2.2.1.2.1 _ (by omega) (by omega)]
  refine s_aload_n dX4_readChanged_21 rfl ?_
  refine s_geti dX4_readChanged_22 fl_X4_105 kl_3 (by decide) rfl io_2 (z := 6) rfl ?_
  
  refine s_callP (as := [_, _]) (y 1 (8 + tT y T n a) = 0) (fun q => (ot_x (ot_f K (fun z => q z.2)) (by omega)).1) dX4_readChanged_25 vf_X4_108 (dd_ (by omega) (by decide)) rfl rfl (Nat.le_of_ble_eq_true rfl) kl_3 rfl io_2 (fun b1 b2 Q1 hb1 k1 kx1 => ?_)
  refine c_X4_demand (by omega) (fun q => hb1 (b01_0.mp q)) RhG1 (hG1.2 _ _) (b01_or _) (f := nb_ T n a) (by omega) (by omega) (fun q => ?_) (fun q h' X => kx1 _ _ _ (b01_0.mp q) ((ot_x (ot_f K (fun z => (b01_0.mp q) z.2)) (by omega)).2 h' X))
  have ok9 := b01_n.mp q
  refine k1 _ _ _ ok9 ?_
  have K := ot_t K (show okH T n a y from ⟨tk, ok9⟩)
  refine s_aload_n dX4_readChanged_28 rfl ?_
  refine s_getr dX4_readChanged_29 fl_X4_21 kl_3 (by decide) rfl io_2 (z := 1) rfl (rf_3_1 hG1.1 io_2) (rk_3_1 io_2).1 ?_
  refine s_iload_n dX4_readChanged_32 rfl ?_
  refine s_aload_n dX4_readChanged_33 rfl ?_
  refine s_iconst dX4_readChanged_34 ?_
  refine s_sipush dX4_readChanged_35 (by decide) ?_
  
  refine s_callP (as := [_, _]) (okN T n (wn_ T n a) 1 9999) (fun q => (ot_x (ot_f K q) (by omega)).1) dX4_readChanged_38 vf_X4_71 (dd_ (by omega) (by decide)) rfl rfl (Nat.le_of_ble_eq_true rfl) kl_3 rfl io_2 (fun b1 b2 Q1 hb1 k1 kx1 => ?_)
  refine c_X4_takeNumber (by omega) ⟨by omega, by omega⟩ ⟨by omega, by omega⟩ (fun q => hb1 q) E RhG1 (by omega) (by omega) (fun okhG2 hhG2 RhG2 => k1 _ _ _ okhG2 ?_) (fun q h' X => kx1 _ _ _ q ((ot_x (ot_f K q) (by omega)).2 h' X))
  have hG2 := RhG2.1.1
  have dhG2 := RhG2.2.1
  have phG2 := RhG2.2.2.1.1
  have K := ot_t K okhG2
  have ohG2 := okhG2.2
  refine s_callV (d' := d - 1) (bc' := 0) (bs' := 0) (as := [_, _]) dX4_readChanged_41 vf_X4_128 (dd_ (by omega) (by decide)) ⟨Nat.zero_le _, Nat.zero_le _⟩ rfl rfl (Nat.le_of_ble_eq_true rfl) kl_1 rfl (rk_3_1 io_2) ?_
  refine c_X2_putWorth (rk_3_1 io_2) hG2 (by omega) (by omega) ⟨by omega, by omega⟩ ?_
  exact s_return dX4_readChanged_44 rfl (ot_ok K (by rw [zput_ne (by omega)]) (by omega) (by omega) (rs_fu (k := tT y T n a) (w := dv_ T n (wn_ T n a)) E RhG2 (by unfold zok; omega)))
set_option maxRecDepth 100000 in
set_option maxHeartbeats 4000000 in
theorem c_X4_readLost  (hd : 11 ≤ d) (E : EV_ h0 v n T) (RhG : RS_ h0 v n (y 0 1) a s y h) (a0 : 0 ≤ a) (a1 : a ≤ n) (s0 : 0 ≤ s) (s1 : s ≤ 400) (K : OT_ Q bc bs h0 v n (pLost T n a y))  : Cl_ yX4_readLost MX4_readLost d bc bs [(2, 2)] nN h Q := by
  refine s_enter pn_X4 rfl (Nat.le_of_ble_eq_true rfl) (L := [(2, _), (9, 0)]) rfl ?_
  have hG := RhG.1.1
  have dhG := RhG.2.1
  have phG := RhG.2.2.1.1
  have hn := E.2.1
  have W := ev_w E
  have i2 := RhG.2.2.2.2.2.2.1
  have iT := i2.1
  have iP := i2.2.1
  have iG := i2.2.2
  unfold pLost at K
  have w1 := wn_bd (T := T) (n := n) (a := a) (by omega)
  have w2 := wn_bd (T := T) (n := n) (a := wn_ T n a) (by omega)
  have w3 := dn_bd (T := T) (n := n) (a := (wn_ T n (wn_ T n a))) (by omega)
  have v3 := nv_bd (T := T) (n := n) (s := nb_ T n ((wn_ T n (wn_ T n a))))
  refine s_aload_n dX4_readLost_0 rfl ?_
  refine s_aload_n dX4_readLost_1 rfl ?_
  refine s_getr dX4_readLost_2 fl_X4_12 kl_3 (by decide) rfl io_2 (z := 0) rfl RhG.1.2.2 (W).1 ?_
  refine s_getr dX4_readLost_5 fl_X4_115 kl_5 (by decide) rfl W (z := 0) rfl (rf_5_0 hG.1 W) (rk_5_0 W).1 ?_
  
  refine s_callP (as := [_]) (¬ tT y T n a = -1) (fun q => (ot_x (ot_f K (fun z => q z.1)) (by omega)).1) dX4_readLost_8 vf_X4_146 (dd_ (by omega) (by decide)) rfl rfl (Nat.le_of_ble_eq_true rfl) kl_3 rfl io_2 (fun b1 b2 Q1 hb1 k1 kx1 => ?_)
  refine c_X4_takeToldNameT (by omega) (fun q => hb1 q) E RhG (by omega) (by omega) (fun okhG1 hhG1 RhG1 => k1 _ _ _ okhG1 ?_) (fun q h' X => kx1 _ _ _ q ((ot_x (ot_f K (fun z => q z.1)) (by omega)).2 h' X))
  have hG1 := RhG1.1.1
  have dhG1 := RhG1.2.1
  have phG1 := RhG1.2.2.1.1
  have tb := tT_bd y T n a
  have tk := okhG1
  refine s_istore_n dX4_readLost_11 (by decide) rfl (L' := [_, _]) rfl ?_
  refine s_aload_n dX4_readLost_12 rfl ?_
  refine s_aload_n dX4_readLost_13 rfl ?_
  refine s_getr dX4_readLost_14 fl_X4_21 kl_3 (by decide) rfl io_2 (z := 1) rfl (rf_3_1 hG1.1 io_2) (rk_3_1 io_2).1 ?_
  refine s_iload_n dX4_readLost_17 rfl ?_
  refine s_callV (d' := d - 1) (bc' := 0) (bs' := 0) (as := [_]) dX4_readLost_18 vf_X4_169 (dd_ (by omega) (by decide)) ⟨Nat.zero_le _, Nat.zero_le _⟩ rfl rfl (Nat.le_of_ble_eq_true rfl) kl_1 rfl (rk_3_1 io_2) ?_
  refine c_X2_isHeld (rk_3_1 io_2) hG1 (by omega) (by omega) ?_
  rw [RhG1.2.2.1.2.1 _ (by omega) (by omega)]
  refine s_aload_n dX4_readLost_21 rfl ?_
  refine s_geti dX4_readLost_22 fl_X4_105 kl_3 (by decide) rfl io_2 (z := 6) rfl ?_
  
  refine s_callP (as := [_, _]) (y 1 (8 + tT y T n a) = 0) (fun q => (ot_x (ot_f K (fun z => q z.2)) (by omega)).1) dX4_readLost_25 vf_X4_108 (dd_ (by omega) (by decide)) rfl rfl (Nat.le_of_ble_eq_true rfl) kl_3 rfl io_2 (fun b1 b2 Q1 hb1 k1 kx1 => ?_)
  refine c_X4_demand (by omega) (fun q => hb1 (b01_0.mp q)) RhG1 (hG1.2 _ _) (b01_or _) (f := nb_ T n a) (by omega) (by omega) (fun q => ?_) (fun q h' X => kx1 _ _ _ (b01_0.mp q) ((ot_x (ot_f K (fun z => (b01_0.mp q) z.2)) (by omega)).2 h' X))
  have ok9 := b01_n.mp q
  refine k1 _ _ _ ok9 ?_
  have K := ot_t K (show okH T n a y from ⟨tk, ok9⟩)
  refine s_aload_n dX4_readLost_28 rfl ?_
  refine s_getsr dX4_readLost_29 (C := "WillHouse$Word") (nm := "INSURED") (ds := "LWillHouse$Word;") (ref := "") (z := 1217) (by decide +kernel) fl_X4_185 ?_
  
  refine s_callP (as := [_]) (okW T n (wn_ T n a) 17) (fun q => (ot_x (ot_f K q) (by omega)).1) dX4_readLost_32 vf_X4_142 (dd_ (by omega) (by decide)) rfl rfl (Nat.le_of_ble_eq_true rfl) kl_3 rfl io_2 (fun b1 b2 Q1 hb1 k1 kx1 => ?_)
  refine c_X4_takeThis (j := 17) (by decide) (by omega) (fun q => hb1 q) E RhG1 (by omega) (by omega) (fun okhG2 hhG2 RhG2 => k1 _ _ _ okhG2 ?_) (fun q h' X => kx1 _ _ _ q ((ot_x (ot_f K q) (by omega)).2 h' X))
  have hG2 := RhG2.1.1
  have dhG2 := RhG2.2.1
  have phG2 := RhG2.2.2.1.1
  have K := ot_t K okhG2
  refine s_aload_n dX4_readLost_35 rfl ?_
  refine s_getr dX4_readLost_36 fl_X4_21 kl_3 (by decide) rfl io_2 (z := 1) rfl (rf_3_1 hG2.1 io_2) (rk_3_1 io_2).1 ?_
  refine s_iload_n dX4_readLost_39 rfl ?_
  refine s_aload_n dX4_readLost_40 rfl ?_
  refine s_iconst dX4_readLost_41 ?_
  refine s_sipush dX4_readLost_42 (by decide) ?_
  
  refine s_callP (as := [_, _]) (okN T n (wn_ T n (wn_ T n a)) 0 9999) (fun q => (ot_x (ot_f K q) (by omega)).1) dX4_readLost_45 vf_X4_71 (dd_ (by omega) (by decide)) rfl rfl (Nat.le_of_ble_eq_true rfl) kl_3 rfl io_2 (fun b1 b2 Q1 hb1 k1 kx1 => ?_)
  refine c_X4_takeNumber (by omega) ⟨by omega, by omega⟩ ⟨by omega, by omega⟩ (fun q => hb1 q) E RhG2 (by omega) (by omega) (fun okhG3 hhG3 RhG3 => k1 _ _ _ okhG3 ?_) (fun q h' X => kx1 _ _ _ q ((ot_x (ot_f K q) (by omega)).2 h' X))
  have hG3 := RhG3.1.1
  have dhG3 := RhG3.2.1
  have phG3 := RhG3.2.2.1.1
  have K := ot_t K okhG3
  have ohG3 := okhG3.2
  refine s_callV (d' := d - 1) (bc' := 0) (bs' := 0) (as := [_, _]) dX4_readLost_48 vf_X4_188 (dd_ (by omega) (by decide)) ⟨Nat.zero_le _, Nat.zero_le _⟩ rfl rfl (Nat.le_of_ble_eq_true rfl) kl_1 rfl (rk_3_1 io_2) ?_
  refine c_X2_putLost (rk_3_1 io_2) hG3 (by omega) (by omega) ⟨by omega, by omega⟩ ?_
  exact s_return dX4_readLost_51 rfl (ot_ok K (by rw [zput_ne (by omega)]) (by omega) (by omega) (rs_fl E RhG3 (by omega) (by omega) (by omega) (by omega)))
set_option maxRecDepth 100000 in
set_option maxHeartbeats 4000000 in
theorem c_X4_readDead  (hd : 11 ≤ d) (E : EV_ h0 v n T) (RhG : RS_ h0 v n (y 0 1) a s y h) (a0 : 0 ≤ a) (a1 : a ≤ n) (s0 : 0 ≤ s) (s1 : s ≤ 400) (K : OT_ Q bc bs h0 v n (pDead T n a y))  : Cl_ yX4_readDead MX4_readDead d bc bs [(2, 2)] nN h Q := by
  refine s_enter pn_X4 rfl (Nat.le_of_ble_eq_true rfl) (L := [(2, _), (9, 0)]) rfl ?_
  have hG := RhG.1.1
  have dhG := RhG.2.1
  have phG := RhG.2.2.1.1
  have hn := E.2.1
  have W := ev_w E
  have i2 := RhG.2.2.2.2.2.2.1
  have iT := i2.1
  have iP := i2.2.1
  have iG := i2.2.2
  unfold pDead at K
  have w1 := wn_bd (T := T) (n := n) (a := a) (by omega)
  refine s_aload_n dX4_readDead_0 rfl ?_
  refine s_aload_n dX4_readDead_1 rfl ?_
  refine s_getr dX4_readDead_2 fl_X4_12 kl_3 (by decide) rfl io_2 (z := 0) rfl RhG.1.2.2 (W).1 ?_
  refine s_getr dX4_readDead_5 fl_X4_131 kl_5 (by decide) rfl W (z := 3) rfl (rf_5_3 hG.1 W) (rk_5_3 W).1 ?_
  
  refine s_callP (as := [_]) (¬ tP y T n a = -1) (fun q => (ot_x (ot_f K (fun z => q z.1)) (by omega)).1) dX4_readDead_8 vf_X4_146 (dd_ (by omega) (by decide)) rfl rfl (Nat.le_of_ble_eq_true rfl) kl_3 rfl io_2 (fun b1 b2 Q1 hb1 k1 kx1 => ?_)
  refine c_X4_takeToldNameP (by omega) (fun q => hb1 q) E RhG (by omega) (by omega) (fun okhG1 hhG1 RhG1 => k1 _ _ _ okhG1 ?_) (fun q h' X => kx1 _ _ _ q ((ot_x (ot_f K (fun z => q z.1)) (by omega)).2 h' X))
  have hG1 := RhG1.1.1
  have dhG1 := RhG1.2.1
  have phG1 := RhG1.2.2.1.1
  have tb := tP_bd y T n a
  have tk := okhG1
  refine s_istore_n dX4_readDead_11 (by decide) rfl (L' := [_, _]) rfl ?_
  refine s_aload_n dX4_readDead_12 rfl ?_
  refine s_aload_n dX4_readDead_13 rfl ?_
  refine s_getr dX4_readDead_14 fl_X4_21 kl_3 (by decide) rfl io_2 (z := 1) rfl (rf_3_1 hG1.1 io_2) (rk_3_1 io_2).1 ?_
  refine s_iload_n dX4_readDead_17 rfl ?_
  refine s_callV (d' := d - 1) (bc' := 0) (bs' := 0) (as := [_]) dX4_readDead_18 vf_X4_191 (dd_ (by omega) (by decide)) ⟨Nat.zero_le _, Nat.zero_le _⟩ rfl rfl (Nat.le_of_ble_eq_true rfl) kl_1 rfl (rk_3_1 io_2) ?_
  refine c_X2_isDead (rk_3_1 io_2) hG1 (by omega) (by omega) ?_
  rw [RhG1.2.2.1.2.1 _ (by omega) (by omega)]
  refine s_if_ne (tgt := 28) dX4_readDead_21 (by decide) (by first | exact hG1.2 _ _ | exact hG.2 _ _ | exact b01_in _ | assumption | exact ⟨by omega, by omega⟩) (fun c1 => ?_) (fun c1 => ?_)
  · have c1 := b01_n.mp c1
    refine s_iconst dX4_readDead_28 ?_
    refine s_aload_n dX4_readDead_29 rfl ?_
    refine s_geti dX4_readDead_30 fl_X4_105 kl_3 (by decide) rfl io_2 (z := 6) rfl ?_
    
    refine s_callP (as := [_, _]) (y 1 (32 + tP y T n a) = 0) (fun q => (ot_x (ot_f K (fun z => q z.2)) (by omega)).1) dX4_readDead_33 vf_X4_108 (dd_ (by omega) (by decide)) rfl rfl (Nat.le_of_ble_eq_true rfl) kl_3 rfl io_2 (fun b1 b2 Q1 hb1 k1 kx1 => ?_)
    exact c_X4_demand (by omega) (fun q => hb1 (by omega)) RhG1 (hG1.2 _ _) (Or.inl rfl) (f := nb_ T n a) (by omega) (by omega) (fun q => absurd rfl q) (fun q h' X => kx1 _ _ _ (by omega) ((ot_x (ot_f K (fun z => absurd z.2 (by omega))) (by omega)).2 h' X))
  · have c1 := b01_0.mp c1
    refine s_iconst dX4_readDead_24 ?_
    refine s_goto (tgt := 29) dX4_readDead_25 (by decide) ?_
    refine s_aload_n dX4_readDead_29 rfl ?_
    refine s_geti dX4_readDead_30 fl_X4_105 kl_3 (by decide) rfl io_2 (z := 6) rfl ?_
    
    refine s_callP (as := [_, _]) (y 1 (32 + tP y T n a) = 0) (fun q => (ot_x (ot_f K (fun z => q z.2)) (by omega)).1) dX4_readDead_33 vf_X4_108 (dd_ (by omega) (by decide)) rfl rfl (Nat.le_of_ble_eq_true rfl) kl_3 rfl io_2 (fun b1 b2 Q1 hb1 k1 kx1 => ?_)
    refine c_X4_demand (by omega) (fun q => absurd q (by decide)) RhG1 (hG1.2 _ _) (Or.inr rfl) (f := nb_ T n a) (by omega) (by omega) (fun q => k1 _ _ _ (by omega) ?_) (fun q => absurd q (by decide))
    have K := ot_t K ⟨tk, show y 1 (32 + tP y T n a) = 0 by omega⟩
    refine s_aload_n dX4_readDead_36 rfl ?_
    refine s_getr dX4_readDead_37 fl_X4_21 kl_3 (by decide) rfl io_2 (z := 1) rfl (rf_3_1 hG1.1 io_2) (rk_3_1 io_2).1 ?_
    refine s_iload_n dX4_readDead_40 rfl ?_
    refine s_callV (d' := d - 1) (bc' := 0) (bs' := 0) (as := [_]) dX4_readDead_41 vf_X4_194 (dd_ (by omega) (by decide)) ⟨Nat.zero_le _, Nat.zero_le _⟩ rfl rfl (Nat.le_of_ble_eq_true rfl) kl_1 rfl (rk_3_1 io_2) ?_
    refine c_X2_putDead (rk_3_1 io_2) hG1 (by omega) (by omega) ?_
    exact s_return dX4_readDead_44 rfl (ot_ok K (by rw [zput_ne (by omega)]) (by omega) (by omega) (rs_fu (k := 32 + tP y T n a) (w := 1) E RhG1 (by unfold zok; omega)))
set_option maxRecDepth 100000 in
set_option maxHeartbeats 4000000 in
theorem c_X4_readRule  (hd : 11 ≤ d) (E : EV_ h0 v n T) (RhG : RS_ h0 v n (y 0 1) a s y h) (a0 : 0 ≤ a) (a1 : a ≤ n) (s0 : 0 ≤ s) (s1 : s ≤ 400) (K : OT_ Q bc bs h0 v n (pRule T n a y))  : Cl_ yX4_readRule MX4_readRule d bc bs [(2, 2)] nN h Q := by
  refine s_enter pn_X4 rfl (Nat.le_of_ble_eq_true rfl) (L := [(2, _)]) rfl ?_
  have hG := RhG.1.1
  have dhG := RhG.2.1
  have phG := RhG.2.2.1.1
  have hn := E.2.1
  have W := ev_w E
  have i2 := RhG.2.2.2.2.2.2.1
  have iT := i2.1
  have iP := i2.2.1
  have iG := i2.2.2
  unfold pRule at K
  have w1 := wn_bd (T := T) (n := n) (a := a) (by omega)
  refine s_aload_n dX4_readRule_0 rfl ?_
  refine s_getsr dX4_readRule_1 (C := "WillHouse$Word") (nm := "WORTH") (ds := "LWillHouse$Word;") (ref := "") (z := 1222) (by decide +kernel) fl_X4_197 ?_
  
  refine s_callP (as := [_]) (okW T n a 22) (fun q => (ot_x (ot_f K q) (by omega)).1) dX4_readRule_4 vf_X4_142 (dd_ (by omega) (by decide)) rfl rfl (Nat.le_of_ble_eq_true rfl) kl_3 rfl io_2 (fun b1 b2 Q1 hb1 k1 kx1 => ?_)
  refine c_X4_takeThis (j := 22) (by decide) (by omega) (fun q => hb1 q) E RhG (by omega) (by omega) (fun okhG1 hhG1 RhG1 => k1 _ _ _ okhG1 ?_) (fun q h' X => kx1 _ _ _ q ((ot_x (ot_f K q) (by omega)).2 h' X))
  have hG1 := RhG1.1.1
  have dhG1 := RhG1.2.1
  have phG1 := RhG1.2.2.1.1
  have K := ot_t K okhG1
  refine s_aload_n dX4_readRule_7 rfl ?_
  refine s_getr dX4_readRule_8 fl_X4_21 kl_3 (by decide) rfl io_2 (z := 1) rfl (rf_3_1 hG1.1 io_2) (rk_3_1 io_2).1 ?_
  refine s_iconst dX4_readRule_11 ?_
  refine s_iconst dX4_readRule_12 ?_
  refine s_callV (d' := d - 1) (bc' := 0) (bs' := 0) (as := [_, _]) dX4_readRule_13 vf_X4_75 (dd_ (by omega) (by decide)) ⟨Nat.zero_le _, Nat.zero_le _⟩ rfl rfl (Nat.le_of_ble_eq_true rfl) kl_1 rfl (rk_3_1 io_2) ?_
  refine c_X2_putTold (rk_3_1 io_2) hG1 (by omega) (by omega) ⟨by omega, by omega⟩ ?_
  exact s_return dX4_readRule_16 rfl (ot_ok K (by rw [zput_ne (by omega)]) (by omega) (by omega) (rs_fu (k := 56 + 4) (w := 1) E RhG1 (by unfold zok; omega)))
set_option maxRecDepth 100000 in
set_option maxHeartbeats 4000000 in
theorem c_X4_readGift0  (hd : 11 ≤ d) (E : EV_ h0 v n T) (RhG : RS_ h0 v n (y 0 1) a s y h) (a0 : 0 ≤ a) (a1 : a ≤ n) (s0 : 0 ≤ s) (s1 : s ≤ 400) (K : OT_ Q bc bs h0 v n (pGift 0 T n s a y))  : Cl_ yX4_readGift MX4_readGift d bc bs [(2, 2), (0, 0)] nN h Q := by
  refine s_enter pn_X4 rfl (Nat.le_of_ble_eq_true rfl) (L := [(2, _), (0, _), (9, 0), (9, 0), (9, 0), (9, 0)]) rfl ?_
  have hG := RhG.1.1
  have dhG := RhG.2.1
  have phG := RhG.2.2.1.1
  have hn := E.2.1
  have W := ev_w E
  have i2 := RhG.2.2.2.2.2.2.1
  have iT := i2.1
  have iP := i2.2.1
  have iG := i2.2.2
  rw [pg_0 a0 a1] at K
  have w1 := wn_bd (T := T) (n := n) (a := a) (by omega)
  have w2 := wn_bd (T := T) (n := n) (a := (wn_ T n a)) (by omega)
  have w3 := wn_bd (T := T) (n := n) (a := (wn_ T n (wn_ T n a))) (by omega)
  refine s_aload_n dX4_readGift_0 rfl ?_
  refine s_aload_n dX4_readGift_1 rfl ?_
  refine s_getr dX4_readGift_2 fl_X4_12 kl_3 (by decide) rfl io_2 (z := 0) rfl RhG.1.2.2 (W).1 ?_
  refine s_geti dX4_readGift_5 fl_X4_149 kl_5 (by decide) rfl W (z := 7) rfl ?_
  refine s_bipush dX4_readGift_8 (by decide) ?_
  refine s_icmp_ge (tgt := 17) dX4_readGift_10 (by decide) (by first | exact hG.2 _ _ | exact b01_in _ | assumption | exact ⟨by omega, by omega⟩) (by first | exact hG.2 _ _ | exact b01_in _ | assumption | exact ⟨by omega, by omega⟩) (fun c1 => ?_) (fun c1 => ?_)
  · refine s_iconst dX4_readGift_17 ?_
    refine s_aload_n dX4_readGift_18 rfl ?_
    refine s_geti dX4_readGift_19 fl_X4_105 kl_3 (by decide) rfl io_2 (z := 6) rfl ?_
    
    refine s_callP (as := [_, _]) (y 0 2 < 12) (fun q => (ot_x (ot_f K q) (by omega)).1) dX4_readGift_22 vf_X4_108 (dd_ (by omega) (by decide)) rfl rfl (Nat.le_of_ble_eq_true rfl) kl_3 rfl io_2 (fun b1 b2 Q1 hb1 k1 kx1 => ?_)
    exact c_X4_demand (by omega) (fun q => hb1 (by omega)) RhG (hG.2 _ _) (Or.inl rfl) (f := s) (by omega) (by omega) (fun q => absurd rfl q) (fun q h' X => kx1 _ _ _ (by omega) ((ot_x (ot_f K (by omega)) (by omega)).2 h' X))
  · refine s_iconst dX4_readGift_13 ?_
    refine s_goto (tgt := 18) dX4_readGift_14 (by decide) ?_
    refine s_aload_n dX4_readGift_18 rfl ?_
    refine s_geti dX4_readGift_19 fl_X4_105 kl_3 (by decide) rfl io_2 (z := 6) rfl ?_
    
    refine s_callP (as := [_, _]) (y 0 2 < 12) (fun q => (ot_x (ot_f K q) (by omega)).1) dX4_readGift_22 vf_X4_108 (dd_ (by omega) (by decide)) rfl rfl (Nat.le_of_ble_eq_true rfl) kl_3 rfl io_2 (fun b1 b2 Q1 hb1 k1 kx1 => ?_)
    refine c_X4_demand (by omega) (fun q => absurd q (by decide)) RhG (hG.2 _ _) (Or.inr rfl) (f := s) (by omega) (by omega) (fun q => k1 _ _ _ (by omega) ?_) (fun q => absurd q (by decide))
    have K := ot_t K (show y 0 2 < 12 from (by omega))
    refine s_iconst dX4_readGift_25 ?_
    refine s_istore_n dX4_readGift_26 (by decide) rfl (L' := [_, _, _, _, _, _]) rfl ?_
    refine s_iload_n dX4_readGift_27 rfl ?_
    refine s_if_eq (tgt := 36) dX4_readGift_28 (by decide) (by first | exact hG.2 _ _ | exact b01_in _ | assumption | exact ⟨by omega, by omega⟩) (fun c2 => ?_) (fun c2 => ?_)
    · refine s_aload_n dX4_readGift_36 rfl ?_
      refine s_aload_n dX4_readGift_37 rfl ?_
      refine s_getr dX4_readGift_38 fl_X4_12 kl_3 (by decide) rfl io_2 (z := 0) rfl RhG.1.2.2 (W).1 ?_
      refine s_getr dX4_readGift_41 fl_X4_115 kl_5 (by decide) rfl W (z := 0) rfl (rf_5_0 hG.1 W) (rk_5_0 W).1 ?_
      
      refine s_callP (as := [_]) (¬ tT y T n a = -1) (fun q => (ot_x (ot_g K (Or.inl (nn_e q))) (by omega)).1) dX4_readGift_44 vf_X4_146 (dd_ (by omega) (by decide)) rfl rfl (Nat.le_of_ble_eq_true rfl) kl_3 rfl io_2 (fun b1 b2 Q1 hb1 k1 kx1 => ?_)
      refine c_X4_takeToldNameT (by omega) (fun q => hb1 q) E RhG (by omega) (by omega) (fun okhG1 hhG1 RhG1 => k1 _ _ _ okhG1 ?_) (fun q h' X => kx1 _ _ _ q ((ot_x (ot_g K (Or.inl (nn_e q))) (by omega)).2 h' X))
      have hG1 := RhG1.1.1
      have dhG1 := RhG1.2.1
      have phG1 := RhG1.2.2.1.1
      have tb := tT_bd y T n a
      have tk := okhG1
      have gv := RhG1.2.2.2.2.1 (tT y T n a) (by omega) (by omega)
      refine s_istore_n dX4_readGift_47 (by decide) rfl (L' := [_, _, _, _, _, _]) rfl ?_
      refine s_iload_n dX4_readGift_48 rfl ?_
      refine s_if_ne (tgt := 68) dX4_readGift_49 (by decide) (by first | exact hG1.2 _ _ | exact hG.2 _ _ | exact b01_in _ | assumption | exact ⟨by omega, by omega⟩) (fun c3 => ?_) (fun c3 => ?_)
      · exact absurd c3 (by decide)
      · refine s_aload_n dX4_readGift_52 rfl ?_
        refine s_getr dX4_readGift_53 fl_X4_12 kl_3 (by decide) rfl io_2 (z := 0) rfl RhG1.1.2.2 (W).1 ?_
        refine s_getr dX4_readGift_56 fl_X4_152 kl_5 (by decide) rfl W (z := 2) rfl (rf_5_2 hG1.1 W) (rk_5_2 W).1 ?_
        refine s_iload_n dX4_readGift_59 rfl ?_
        refine s_baload2 dX4_readGift_60 (rk_5_2 W) (by omega) (by omega) ?_
        refine s_if_eq (tgt := 68) dX4_readGift_61 (by decide) (by first | exact hG1.2 _ _ | exact hG.2 _ _ | exact b01_in _ | assumption | exact ⟨by omega, by omega⟩) (fun c4 => ?_) (fun c4 => ?_)
        · refine s_iconst dX4_readGift_68 ?_
          refine s_istore_n dX4_readGift_69 (by decide) rfl (L' := [_, _, _, _, _, _]) rfl ?_
          refine s_aload_n dX4_readGift_70 rfl ?_
          refine s_aload_n dX4_readGift_71 rfl ?_
          refine s_getr dX4_readGift_72 fl_X4_12 kl_3 (by decide) rfl io_2 (z := 0) rfl RhG1.1.2.2 (W).1 ?_
          refine s_getr dX4_readGift_75 fl_X4_156 kl_5 (by decide) rfl W (z := 1) rfl (rf_5_1 hG1.1 W) (rk_5_1 W).1 ?_
          refine s_iload_n dX4_readGift_78 rfl ?_
          refine s_baload2 dX4_readGift_79 (rk_5_1 W) (by omega) (by omega) ?_
          refine s_if_ne (tgt := 91) dX4_readGift_80 (by decide) (by first | exact hG1.2 _ _ | exact hG.2 _ _ | exact b01_in _ | assumption | exact ⟨by omega, by omega⟩) (fun c5 => ?_) (fun c5 => ?_)
          · refine s_iconst dX4_readGift_91 ?_
            refine s_aload_n dX4_readGift_92 rfl ?_
            refine s_geti dX4_readGift_93 fl_X4_105 kl_3 (by decide) rfl io_2 (z := 6) rfl ?_
            
            have ngk : ¬ (¬ gk_ y 0 (tT y T n a) ∧ ¬ gk_ y 2 (tT y T n a)) := (fun z => by first | exact z.1 (gv.1.mp (by omega)) | exact z.2 (gv.2.mp (by omega)))
            refine s_callP (as := [_, _]) (¬ gk_ y 0 (tT y T n a) ∧ ¬ gk_ y 2 (tT y T n a)) (fun q => (ot_x (ot_g K (Or.inr (Classical.byContradiction fun w => q ⟨fun z => w (Or.inl z), fun z => w (Or.inr z)⟩))) (by omega)).1) dX4_readGift_96 vf_X4_108 (dd_ (by omega) (by decide)) rfl rfl (Nat.le_of_ble_eq_true rfl) kl_3 rfl io_2 (fun b1 b2 Q1 hb1 k1 kx1 => ?_)
            exact c_X4_demand (by omega) (fun q => hb1 ngk) RhG1 (hG1.2 _ _) (Or.inl rfl) (f := nb_ T n a) (by omega) (by omega) (fun q => absurd rfl q) (fun q h' X => kx1 _ _ _ ngk ((ot_x (ot_g K (Or.inr (Classical.byContradiction fun w => ngk ⟨fun z => w (Or.inl z), fun z => w (Or.inr z)⟩))) (by omega)).2 h' X))
          · refine s_iload_n dX4_readGift_83 rfl ?_
            refine s_if_ne (tgt := 91) dX4_readGift_84 (by decide) (by first | exact hG1.2 _ _ | exact hG.2 _ _ | exact b01_in _ | assumption | exact ⟨by omega, by omega⟩) (fun c6 => ?_) (fun c6 => ?_)
            · exact absurd rfl c6
            · refine s_iconst dX4_readGift_87 ?_
              refine s_goto (tgt := 92) dX4_readGift_88 (by decide) ?_
              refine s_aload_n dX4_readGift_92 rfl ?_
              refine s_geti dX4_readGift_93 fl_X4_105 kl_3 (by decide) rfl io_2 (z := 6) rfl ?_
              
              refine s_callP (as := [_, _]) (¬ gk_ y 0 (tT y T n a) ∧ ¬ gk_ y 2 (tT y T n a)) (fun q => (ot_x (ot_g K (Or.inr (Classical.byContradiction fun w => q ⟨fun z => w (Or.inl z), fun z => w (Or.inr z)⟩))) (by omega)).1) dX4_readGift_96 vf_X4_108 (dd_ (by omega) (by decide)) rfl rfl (Nat.le_of_ble_eq_true rfl) kl_3 rfl io_2 (fun b1 b2 Q1 hb1 k1 kx1 => ?_)
              refine c_X4_demand (by omega) (fun q => absurd q (by decide)) RhG1 (hG1.2 _ _) (Or.inr rfl) (f := nb_ T n a) (by omega) (by omega) (fun q => k1 _ _ _ (⟨fun z => (gv.1.mpr z) (by omega), fun z => (gv.2.mpr z) (by omega)⟩) ?_) (fun q => absurd q (by decide))
              have gok : ¬ gk_ y 0 (tT y T n a) ∧ ¬ gk_ y 2 (tT y T n a) := (⟨fun z => (gv.1.mpr z) (by omega), fun z => (gv.2.mpr z) (by omega)⟩)
              have K := (ot_u K (fun z => z.elim tk (fun z => z.elim gok.1 gok.2)))
              refine s_iconst dX4_readGift_99 ?_
              refine s_istore_n dX4_readGift_100 (by decide) rfl (L' := [_, _, _, _, _, _]) rfl ?_
              refine s_iload_n dX4_readGift_101 rfl ?_
              refine s_if_eq (tgt := 124) dX4_readGift_102 (by decide) (by first | exact hG1.2 _ _ | exact hG.2 _ _ | exact b01_in _ | assumption | exact ⟨by omega, by omega⟩) (fun c7 => ?_) (fun c7 => ?_)
              · refine s_aload_n dX4_readGift_124 rfl ?_
                refine s_getsr dX4_readGift_125 (C := "WillHouse$Word") (nm := "TO") (ds := "LWillHouse$Word;") (ref := "") (z := 1208) (by decide +kernel) fl_X4_159 ?_
                
                refine s_callP (as := [_]) (okW T n (wn_ T n a) 8) (fun q => (ot_x (ot_f K q) (by omega)).1) dX4_readGift_128 vf_X4_142 (dd_ (by omega) (by decide)) rfl rfl (Nat.le_of_ble_eq_true rfl) kl_3 rfl io_2 (fun b1 b2 Q1 hb1 k1 kx1 => ?_)
                refine c_X4_takeThis (j := 8) (by decide) (by omega) (fun q => hb1 q) E RhG1 (by omega) (by omega) (fun okhG2 hhG2 RhG2 => k1 _ _ _ okhG2 ?_) (fun q h' X => kx1 _ _ _ q ((ot_x (ot_f K q) (by omega)).2 h' X))
                have hG2 := RhG2.1.1
                have dhG2 := RhG2.2.1
                have phG2 := RhG2.2.2.1.1
                have K := ot_t K okhG2
                refine s_aload_n dX4_readGift_131 rfl ?_
                refine s_aload_n dX4_readGift_132 rfl ?_
                refine s_getr dX4_readGift_133 fl_X4_12 kl_3 (by decide) rfl io_2 (z := 0) rfl RhG2.1.2.2 (W).1 ?_
                refine s_getr dX4_readGift_136 fl_X4_131 kl_5 (by decide) rfl W (z := 3) rfl (rf_5_3 hG2.1 W) (rk_5_3 W).1 ?_
                
                refine s_callP (as := [_]) (¬ tP y T n (wn_ T n (wn_ T n a)) = -1) (fun q => (ot_x (ot_g K (nn_e q)) (by omega)).1) dX4_readGift_139 vf_X4_146 (dd_ (by omega) (by decide)) rfl rfl (Nat.le_of_ble_eq_true rfl) kl_3 rfl io_2 (fun b1 b2 Q1 hb1 k1 kx1 => ?_)
                refine c_X4_takeToldNameP (by omega) (fun q => hb1 q) E RhG2 (by omega) (by omega) (fun okhG3 hhG3 RhG3 => k1 _ _ _ okhG3 ?_) (fun q h' X => kx1 _ _ _ q ((ot_x (ot_g K (nn_e q)) (by omega)).2 h' X))
                have hG3 := RhG3.1.1
                have dhG3 := RhG3.2.1
                have phG3 := RhG3.2.2.1.1
                have pb := tP_bd y T n (wn_ T n (wn_ T n a))
                have pk := okhG3
                have K := ot_u K pk
                refine s_istore dX4_readGift_142 (by decide) rfl (L' := [_, _, _, _, _, _]) rfl ?_
                refine s_iload_n dX4_readGift_144 rfl ?_
                refine s_iconst dX4_readGift_145 ?_
                refine s_icmp_eq (tgt := 154) dX4_readGift_146 (by decide) (by first | exact hG3.2 _ _ | exact hG.2 _ _ | exact b01_in _ | assumption | exact ⟨by omega, by omega⟩) (by first | exact hG3.2 _ _ | exact hG.2 _ _ | exact b01_in _ | assumption | exact ⟨by omega, by omega⟩) (fun c8 => ?_) (fun c8 => ?_)
                · exact absurd c8 (by decide)
                · refine s_iload_n dX4_readGift_149 rfl ?_
                  refine s_iconst dX4_readGift_150 ?_
                  refine s_icmp_ne (tgt := 161) dX4_readGift_151 (by decide) (by first | exact hG3.2 _ _ | exact hG.2 _ _ | exact b01_in _ | assumption | exact ⟨by omega, by omega⟩) (by first | exact hG3.2 _ _ | exact hG.2 _ _ | exact b01_in _ | assumption | exact ⟨by omega, by omega⟩) (fun c9 => ?_) (fun c9 => ?_)
                  · refine s_iconst dX4_readGift_161 ?_
                    refine s_istore dX4_readGift_162 (by decide) rfl (L' := [_, _, _, _, _, _]) rfl ?_
                    refine s_aload_n dX4_readGift_164 rfl ?_
                    refine s_getr dX4_readGift_165 fl_X4_12 kl_3 (by decide) rfl io_2 (z := 0) rfl RhG3.1.2.2 (W).1 ?_
                    refine s_iload_n dX4_readGift_168 rfl ?_
                    refine s_iload dX4_readGift_169 rfl ?_
                    refine s_iload_n dX4_readGift_171 rfl ?_
                    refine s_iload_n dX4_readGift_172 rfl ?_
                    refine s_iload dX4_readGift_173 rfl ?_
                    refine s_callV (d' := d - 1) (bc' := 0) (bs' := 0) (as := [_, _, _, _, _]) dX4_readGift_175 vf_X4_165 (dd_ (by omega) (by decide)) ⟨Nat.zero_le _, Nat.zero_le _⟩ rfl rfl (Nat.le_of_ble_eq_true rfl) kl_5 rfl W ?_
                    exact c_X6_addGift W hG3 phG3.2.2 (by omega) (by omega) ⟨by omega, by omega⟩ ⟨by omega, by omega⟩ ⟨by omega, by omega⟩ ⟨by omega, by omega⟩ ⟨by omega, by omega⟩ (fun _ => ⟨by omega, by omega⟩) (fun _ => s_return dX4_readGift_178 rfl (ot_ok K (by rw [ygi_0, fu_ne (by omega)]) (by omega) (by omega) (rs_gu (k := 0) (p := tP y T n (wn_ T n (wn_ T n a))) (t := tT y T n a) (mm := -1) (r := (-1)) E RhG3 (by omega) (by omega) (by omega) (by omega) (by omega) (by omega) (by omega) (by omega) (by omega) (by omega) (Or.inl ⟨rfl, rfl⟩)))) (fun q => absurd q (by decide)) (fun q _ => absurd rfl q)
                  · exact absurd c9 (by decide)
              · exact absurd c7 (by decide)
        · refine s_iconst dX4_readGift_64 ?_
          refine s_goto (tgt := 69) dX4_readGift_65 (by decide) ?_
          refine s_istore_n dX4_readGift_69 (by decide) rfl (L' := [_, _, _, _, _, _]) rfl ?_
          refine s_aload_n dX4_readGift_70 rfl ?_
          refine s_aload_n dX4_readGift_71 rfl ?_
          refine s_getr dX4_readGift_72 fl_X4_12 kl_3 (by decide) rfl io_2 (z := 0) rfl RhG1.1.2.2 (W).1 ?_
          refine s_getr dX4_readGift_75 fl_X4_156 kl_5 (by decide) rfl W (z := 1) rfl (rf_5_1 hG1.1 W) (rk_5_1 W).1 ?_
          refine s_iload_n dX4_readGift_78 rfl ?_
          refine s_baload2 dX4_readGift_79 (rk_5_1 W) (by omega) (by omega) ?_
          refine s_if_ne (tgt := 91) dX4_readGift_80 (by decide) (by first | exact hG1.2 _ _ | exact hG.2 _ _ | exact b01_in _ | assumption | exact ⟨by omega, by omega⟩) (fun c10 => ?_) (fun c10 => ?_)
          · refine s_iconst dX4_readGift_91 ?_
            refine s_aload_n dX4_readGift_92 rfl ?_
            refine s_geti dX4_readGift_93 fl_X4_105 kl_3 (by decide) rfl io_2 (z := 6) rfl ?_
            
            have ngk : ¬ (¬ gk_ y 0 (tT y T n a) ∧ ¬ gk_ y 2 (tT y T n a)) := (fun z => by first | exact z.1 (gv.1.mp (by omega)) | exact z.2 (gv.2.mp (by omega)))
            refine s_callP (as := [_, _]) (¬ gk_ y 0 (tT y T n a) ∧ ¬ gk_ y 2 (tT y T n a)) (fun q => (ot_x (ot_g K (Or.inr (Classical.byContradiction fun w => q ⟨fun z => w (Or.inl z), fun z => w (Or.inr z)⟩))) (by omega)).1) dX4_readGift_96 vf_X4_108 (dd_ (by omega) (by decide)) rfl rfl (Nat.le_of_ble_eq_true rfl) kl_3 rfl io_2 (fun b1 b2 Q1 hb1 k1 kx1 => ?_)
            exact c_X4_demand (by omega) (fun q => hb1 ngk) RhG1 (hG1.2 _ _) (Or.inl rfl) (f := nb_ T n a) (by omega) (by omega) (fun q => absurd rfl q) (fun q h' X => kx1 _ _ _ ngk ((ot_x (ot_g K (Or.inr (Classical.byContradiction fun w => ngk ⟨fun z => w (Or.inl z), fun z => w (Or.inr z)⟩))) (by omega)).2 h' X))
          · refine s_iload_n dX4_readGift_83 rfl ?_
            refine s_if_ne (tgt := 91) dX4_readGift_84 (by decide) (by first | exact hG1.2 _ _ | exact hG.2 _ _ | exact b01_in _ | assumption | exact ⟨by omega, by omega⟩) (fun c11 => ?_) (fun c11 => ?_)
            · refine s_iconst dX4_readGift_91 ?_
              refine s_aload_n dX4_readGift_92 rfl ?_
              refine s_geti dX4_readGift_93 fl_X4_105 kl_3 (by decide) rfl io_2 (z := 6) rfl ?_
              
              have ngk : ¬ (¬ gk_ y 0 (tT y T n a) ∧ ¬ gk_ y 2 (tT y T n a)) := (fun z => by first | exact z.1 (gv.1.mp (by omega)) | exact z.2 (gv.2.mp (by omega)))
              refine s_callP (as := [_, _]) (¬ gk_ y 0 (tT y T n a) ∧ ¬ gk_ y 2 (tT y T n a)) (fun q => (ot_x (ot_g K (Or.inr (Classical.byContradiction fun w => q ⟨fun z => w (Or.inl z), fun z => w (Or.inr z)⟩))) (by omega)).1) dX4_readGift_96 vf_X4_108 (dd_ (by omega) (by decide)) rfl rfl (Nat.le_of_ble_eq_true rfl) kl_3 rfl io_2 (fun b1 b2 Q1 hb1 k1 kx1 => ?_)
              exact c_X4_demand (by omega) (fun q => hb1 ngk) RhG1 (hG1.2 _ _) (Or.inl rfl) (f := nb_ T n a) (by omega) (by omega) (fun q => absurd rfl q) (fun q h' X => kx1 _ _ _ ngk ((ot_x (ot_g K (Or.inr (Classical.byContradiction fun w => ngk ⟨fun z => w (Or.inl z), fun z => w (Or.inr z)⟩))) (by omega)).2 h' X))
            · exact absurd c11 (by decide)
    · exact absurd c2 (by decide)
set_option maxRecDepth 100000 in
set_option maxHeartbeats 4000000 in
theorem c_X4_readGift1  (hd : 11 ≤ d) (E : EV_ h0 v n T) (RhG : RS_ h0 v n (y 0 1) a s y h) (a0 : 0 ≤ a) (a1 : a ≤ n) (s0 : 0 ≤ s) (s1 : s ≤ 400) (K : OT_ Q bc bs h0 v n (pGift 1 T n s a y))  : Cl_ yX4_readGift MX4_readGift d bc bs [(2, 2), (0, 1)] nN h Q := by
  refine s_enter pn_X4 rfl (Nat.le_of_ble_eq_true rfl) (L := [(2, _), (0, _), (9, 0), (9, 0), (9, 0), (9, 0)]) rfl ?_
  have hG := RhG.1.1
  have dhG := RhG.2.1
  have phG := RhG.2.2.1.1
  have hn := E.2.1
  have W := ev_w E
  have i2 := RhG.2.2.2.2.2.2.1
  have iT := i2.1
  have iP := i2.2.1
  have iG := i2.2.2
  rw [pg_1 a0 a1] at K
  have w1 := dn_bd (T := T) (n := n) (a := a) (by omega)
  have v1 := nv_bd (T := T) (n := n) (s := nb_ T n (a))
  have w2 := wn_bd (T := T) (n := n) (a := (dn_ T n a)) (by omega)
  have w3 := wn_bd (T := T) (n := n) (a := (wn_ T n (dn_ T n a))) (by omega)
  have wr := pgR_bd (T := T) (y := y) (n := n) (a := (wn_ T n (wn_ T n (dn_ T n a)))) (by omega) (by omega)
  refine s_aload_n dX4_readGift_0 rfl ?_
  refine s_aload_n dX4_readGift_1 rfl ?_
  refine s_getr dX4_readGift_2 fl_X4_12 kl_3 (by decide) rfl io_2 (z := 0) rfl RhG.1.2.2 (W).1 ?_
  refine s_geti dX4_readGift_5 fl_X4_149 kl_5 (by decide) rfl W (z := 7) rfl ?_
  refine s_bipush dX4_readGift_8 (by decide) ?_
  refine s_icmp_ge (tgt := 17) dX4_readGift_10 (by decide) (by first | exact hG.2 _ _ | exact b01_in _ | assumption | exact ⟨by omega, by omega⟩) (by first | exact hG.2 _ _ | exact b01_in _ | assumption | exact ⟨by omega, by omega⟩) (fun c1 => ?_) (fun c1 => ?_)
  · refine s_iconst dX4_readGift_17 ?_
    refine s_aload_n dX4_readGift_18 rfl ?_
    refine s_geti dX4_readGift_19 fl_X4_105 kl_3 (by decide) rfl io_2 (z := 6) rfl ?_
    
    refine s_callP (as := [_, _]) (y 0 2 < 12) (fun q => (ot_x (ot_f K q) (by omega)).1) dX4_readGift_22 vf_X4_108 (dd_ (by omega) (by decide)) rfl rfl (Nat.le_of_ble_eq_true rfl) kl_3 rfl io_2 (fun b1 b2 Q1 hb1 k1 kx1 => ?_)
    exact c_X4_demand (by omega) (fun q => hb1 (by omega)) RhG (hG.2 _ _) (Or.inl rfl) (f := s) (by omega) (by omega) (fun q => absurd rfl q) (fun q h' X => kx1 _ _ _ (by omega) ((ot_x (ot_f K (by omega)) (by omega)).2 h' X))
  · refine s_iconst dX4_readGift_13 ?_
    refine s_goto (tgt := 18) dX4_readGift_14 (by decide) ?_
    refine s_aload_n dX4_readGift_18 rfl ?_
    refine s_geti dX4_readGift_19 fl_X4_105 kl_3 (by decide) rfl io_2 (z := 6) rfl ?_
    
    refine s_callP (as := [_, _]) (y 0 2 < 12) (fun q => (ot_x (ot_f K q) (by omega)).1) dX4_readGift_22 vf_X4_108 (dd_ (by omega) (by decide)) rfl rfl (Nat.le_of_ble_eq_true rfl) kl_3 rfl io_2 (fun b1 b2 Q1 hb1 k1 kx1 => ?_)
    refine c_X4_demand (by omega) (fun q => absurd q (by decide)) RhG (hG.2 _ _) (Or.inr rfl) (f := s) (by omega) (by omega) (fun q => k1 _ _ _ (by omega) ?_) (fun q => absurd q (by decide))
    have K := ot_t K (show y 0 2 < 12 from (by omega))
    refine s_iconst dX4_readGift_25 ?_
    refine s_istore_n dX4_readGift_26 (by decide) rfl (L' := [_, _, _, _, _, _]) rfl ?_
    refine s_iload_n dX4_readGift_27 rfl ?_
    refine s_if_eq (tgt := 36) dX4_readGift_28 (by decide) (by first | exact hG.2 _ _ | exact b01_in _ | assumption | exact ⟨by omega, by omega⟩) (fun c2 => ?_) (fun c2 => ?_)
    · exact absurd c2 (by decide)
    · refine s_iload_n dX4_readGift_31 rfl ?_
      refine s_iconst dX4_readGift_32 ?_
      refine s_icmp_ne (tgt := 99) dX4_readGift_33 (by decide) (by first | exact hG.2 _ _ | exact b01_in _ | assumption | exact ⟨by omega, by omega⟩) (by first | exact hG.2 _ _ | exact b01_in _ | assumption | exact ⟨by omega, by omega⟩) (fun c3 => ?_) (fun c3 => ?_)
      · refine s_iconst dX4_readGift_99 ?_
        refine s_istore_n dX4_readGift_100 (by decide) rfl (L' := [_, _, _, _, _, _]) rfl ?_
        refine s_iload_n dX4_readGift_101 rfl ?_
        refine s_if_eq (tgt := 124) dX4_readGift_102 (by decide) (by first | exact hG.2 _ _ | exact b01_in _ | assumption | exact ⟨by omega, by omega⟩) (fun c4 => ?_) (fun c4 => ?_)
        · exact absurd c4 (by decide)
        · refine s_aload_n dX4_readGift_105 rfl ?_
          refine s_iconst dX4_readGift_106 ?_
          refine s_iload_n dX4_readGift_107 rfl ?_
          refine s_iconst dX4_readGift_108 ?_
          refine s_icmp_ne (tgt := 117) dX4_readGift_109 (by decide) (by first | exact hG.2 _ _ | exact b01_in _ | assumption | exact ⟨by omega, by omega⟩) (by first | exact hG.2 _ _ | exact b01_in _ | assumption | exact ⟨by omega, by omega⟩) (fun c5 => ?_) (fun c5 => ?_)
          · refine s_sipush dX4_readGift_117 (by decide) ?_
            
            refine s_callP (as := [_, _]) (okN T n a 1 9999) (fun q => (ot_x (ot_f K q) (by omega)).1) dX4_readGift_120 vf_X4_71 (dd_ (by omega) (by decide)) rfl rfl (Nat.le_of_ble_eq_true rfl) kl_3 rfl io_2 (fun b1 b2 Q1 hb1 k1 kx1 => ?_)
            refine c_X4_takeNumber (by omega) ⟨by omega, by omega⟩ ⟨by omega, by omega⟩ (fun q => hb1 q) E RhG (by omega) (by omega) (fun okhG1 hhG1 RhG1 => k1 _ _ _ okhG1 ?_) (fun q h' X => kx1 _ _ _ q ((ot_x (ot_f K q) (by omega)).2 h' X))
            have hG1 := RhG1.1.1
            have dhG1 := RhG1.2.1
            have phG1 := RhG1.2.2.1.1
            have K := ot_t K okhG1
            have ohG1 := okhG1.2
            refine s_istore_n dX4_readGift_123 (by decide) rfl (L' := [_, _, _, _, _, _]) rfl ?_
            refine s_aload_n dX4_readGift_124 rfl ?_
            refine s_getsr dX4_readGift_125 (C := "WillHouse$Word") (nm := "TO") (ds := "LWillHouse$Word;") (ref := "") (z := 1208) (by decide +kernel) fl_X4_159 ?_
            
            refine s_callP (as := [_]) (okW T n (dn_ T n a) 8) (fun q => (ot_x (ot_f K q) (by omega)).1) dX4_readGift_128 vf_X4_142 (dd_ (by omega) (by decide)) rfl rfl (Nat.le_of_ble_eq_true rfl) kl_3 rfl io_2 (fun b1 b2 Q1 hb1 k1 kx1 => ?_)
            refine c_X4_takeThis (j := 8) (by decide) (by omega) (fun q => hb1 q) E RhG1 (by omega) (by omega) (fun okhG2 hhG2 RhG2 => k1 _ _ _ okhG2 ?_) (fun q h' X => kx1 _ _ _ q ((ot_x (ot_f K q) (by omega)).2 h' X))
            have hG2 := RhG2.1.1
            have dhG2 := RhG2.2.1
            have phG2 := RhG2.2.2.1.1
            have K := ot_t K okhG2
            refine s_aload_n dX4_readGift_131 rfl ?_
            refine s_aload_n dX4_readGift_132 rfl ?_
            refine s_getr dX4_readGift_133 fl_X4_12 kl_3 (by decide) rfl io_2 (z := 0) rfl RhG2.1.2.2 (W).1 ?_
            refine s_getr dX4_readGift_136 fl_X4_131 kl_5 (by decide) rfl W (z := 3) rfl (rf_5_3 hG2.1 W) (rk_5_3 W).1 ?_
            
            refine s_callP (as := [_]) (¬ tP y T n (wn_ T n (dn_ T n a)) = -1) (fun q => (ot_x (ot_g K (nn_e q)) (by omega)).1) dX4_readGift_139 vf_X4_146 (dd_ (by omega) (by decide)) rfl rfl (Nat.le_of_ble_eq_true rfl) kl_3 rfl io_2 (fun b1 b2 Q1 hb1 k1 kx1 => ?_)
            refine c_X4_takeToldNameP (by omega) (fun q => hb1 q) E RhG2 (by omega) (by omega) (fun okhG3 hhG3 RhG3 => k1 _ _ _ okhG3 ?_) (fun q h' X => kx1 _ _ _ q ((ot_x (ot_g K (nn_e q)) (by omega)).2 h' X))
            have hG3 := RhG3.1.1
            have dhG3 := RhG3.2.1
            have phG3 := RhG3.2.2.1.1
            have pb := tP_bd y T n (wn_ T n (dn_ T n a))
            have pk := okhG3
            have K := ot_u K pk
            refine s_istore dX4_readGift_142 (by decide) rfl (L' := [_, _, _, _, _, _]) rfl ?_
            refine s_iload_n dX4_readGift_144 rfl ?_
            refine s_iconst dX4_readGift_145 ?_
            refine s_icmp_eq (tgt := 154) dX4_readGift_146 (by decide) (by first | exact hG3.2 _ _ | exact hG.2 _ _ | exact b01_in _ | assumption | exact ⟨by omega, by omega⟩) (by first | exact hG3.2 _ _ | exact hG.2 _ _ | exact b01_in _ | assumption | exact ⟨by omega, by omega⟩) (fun c6 => ?_) (fun c6 => ?_)
            · refine s_aload_n dX4_readGift_154 rfl ?_
              
              refine s_callP (as := []) ((pgR 1 T n (wn_ T n (wn_ T n (dn_ T n a))) y).1 = -1) (fun q => ((ot_f K q).2 q).1) dX4_readGift_155 vf_X4_162 (dd_ (by omega) (by decide)) rfl rfl (Nat.le_of_ble_eq_true rfl) kl_3 rfl io_2 (fun b1 b2 Q1 hb1 k1 kx1 => ?_)
              refine c_X4_takeRank (by omega) (fun q => hb1 q) E RhG3 (by omega) (by omega) (fun okhG4 shG4 hhG4 RhG4 r1 r2 => k1 _ _ _ okhG4 ?_) (fun q h' X => kx1 _ _ _ q (((ot_f K q).2 q).2 h' X))
              have hG4 := RhG4.1.1
              have dhG4 := RhG4.2.1
              have phG4 := RhG4.2.2.1.1
              have K := ot_t K okhG4
              refine s_goto (tgt := 162) dX4_readGift_158 (by decide) ?_
              refine s_istore dX4_readGift_162 (by decide) rfl (L' := [_, _, _, _, _, _]) rfl ?_
              refine s_aload_n dX4_readGift_164 rfl ?_
              refine s_getr dX4_readGift_165 fl_X4_12 kl_3 (by decide) rfl io_2 (z := 0) rfl RhG4.1.2.2 (W).1 ?_
              refine s_iload_n dX4_readGift_168 rfl ?_
              refine s_iload dX4_readGift_169 rfl ?_
              refine s_iload_n dX4_readGift_171 rfl ?_
              refine s_iload_n dX4_readGift_172 rfl ?_
              refine s_iload dX4_readGift_173 rfl ?_
              refine s_callV (d' := d - 1) (bc' := 0) (bs' := 0) (as := [_, _, _, _, _]) dX4_readGift_175 vf_X4_165 (dd_ (by omega) (by decide)) ⟨Nat.zero_le _, Nat.zero_le _⟩ rfl rfl (Nat.le_of_ble_eq_true rfl) kl_5 rfl W ?_
              exact c_X6_addGift W hG4 phG4.2.2 (by omega) (by omega) ⟨by omega, by omega⟩ ⟨by omega, by omega⟩ ⟨by omega, by omega⟩ ⟨by omega, by omega⟩ ⟨by omega, by omega⟩ (fun q => absurd q (by decide)) (fun q => absurd q (by decide)) (fun q => absurd q (by decide)) (fun _ _ => s_return dX4_readGift_178 rfl (ot_ok K (by rw [ygi_0, fu_ne (by omega)]) (by omega) (by omega) (rs_gu (k := 1) (p := tP y T n (wn_ T n (dn_ T n a))) (t := -1) (mm := (dv_ T n a)) (r := ((pgR 1 T n (wn_ T n (wn_ T n (dn_ T n a))) y).2.2 0 0)) E RhG4 (by omega) (by omega) (by omega) (by omega) (by omega) (by omega) (by omega) (by omega) (by omega) (by omega) (Or.inr (Or.inr ⟨Or.inl rfl, rfl⟩)))))
            · exact absurd c6 (by decide)
          · exact absurd c5 (by decide)
      · exact absurd c3 (by decide)
set_option maxRecDepth 100000 in
set_option maxHeartbeats 4000000 in
theorem c_X4_readGift2  (hd : 11 ≤ d) (E : EV_ h0 v n T) (RhG : RS_ h0 v n (y 0 1) a s y h) (a0 : 0 ≤ a) (a1 : a ≤ n) (s0 : 0 ≤ s) (s1 : s ≤ 400) (K : OT_ Q bc bs h0 v n (pGift 2 T n s a y))  : Cl_ yX4_readGift MX4_readGift d bc bs [(2, 2), (0, 2)] nN h Q := by
  refine s_enter pn_X4 rfl (Nat.le_of_ble_eq_true rfl) (L := [(2, _), (0, _), (9, 0), (9, 0), (9, 0), (9, 0)]) rfl ?_
  have hG := RhG.1.1
  have dhG := RhG.2.1
  have phG := RhG.2.2.1.1
  have hn := E.2.1
  have W := ev_w E
  have i2 := RhG.2.2.2.2.2.2.1
  have iT := i2.1
  have iP := i2.2.1
  have iG := i2.2.2
  rw [pg_2 a0 a1] at K
  have w1 := wn_bd (T := T) (n := n) (a := a) (by omega)
  have w2 := dn_bd (T := T) (n := n) (a := (wn_ T n a)) (by omega)
  have v2 := nv_bd (T := T) (n := n) (s := nb_ T n ((wn_ T n a)))
  have w3 := wn_bd (T := T) (n := n) (a := (dn_ T n (wn_ T n a))) (by omega)
  have w4 := wn_bd (T := T) (n := n) (a := (wn_ T n (dn_ T n (wn_ T n a)))) (by omega)
  have wr := pgR_bd (T := T) (y := y) (n := n) (a := (wn_ T n (wn_ T n (dn_ T n (wn_ T n a))))) (by omega) (by omega)
  refine s_aload_n dX4_readGift_0 rfl ?_
  refine s_aload_n dX4_readGift_1 rfl ?_
  refine s_getr dX4_readGift_2 fl_X4_12 kl_3 (by decide) rfl io_2 (z := 0) rfl RhG.1.2.2 (W).1 ?_
  refine s_geti dX4_readGift_5 fl_X4_149 kl_5 (by decide) rfl W (z := 7) rfl ?_
  refine s_bipush dX4_readGift_8 (by decide) ?_
  refine s_icmp_ge (tgt := 17) dX4_readGift_10 (by decide) (by first | exact hG.2 _ _ | exact b01_in _ | assumption | exact ⟨by omega, by omega⟩) (by first | exact hG.2 _ _ | exact b01_in _ | assumption | exact ⟨by omega, by omega⟩) (fun c1 => ?_) (fun c1 => ?_)
  · refine s_iconst dX4_readGift_17 ?_
    refine s_aload_n dX4_readGift_18 rfl ?_
    refine s_geti dX4_readGift_19 fl_X4_105 kl_3 (by decide) rfl io_2 (z := 6) rfl ?_
    
    refine s_callP (as := [_, _]) (y 0 2 < 12) (fun q => (ot_x (ot_f K q) (by omega)).1) dX4_readGift_22 vf_X4_108 (dd_ (by omega) (by decide)) rfl rfl (Nat.le_of_ble_eq_true rfl) kl_3 rfl io_2 (fun b1 b2 Q1 hb1 k1 kx1 => ?_)
    exact c_X4_demand (by omega) (fun q => hb1 (by omega)) RhG (hG.2 _ _) (Or.inl rfl) (f := s) (by omega) (by omega) (fun q => absurd rfl q) (fun q h' X => kx1 _ _ _ (by omega) ((ot_x (ot_f K (by omega)) (by omega)).2 h' X))
  · refine s_iconst dX4_readGift_13 ?_
    refine s_goto (tgt := 18) dX4_readGift_14 (by decide) ?_
    refine s_aload_n dX4_readGift_18 rfl ?_
    refine s_geti dX4_readGift_19 fl_X4_105 kl_3 (by decide) rfl io_2 (z := 6) rfl ?_
    
    refine s_callP (as := [_, _]) (y 0 2 < 12) (fun q => (ot_x (ot_f K q) (by omega)).1) dX4_readGift_22 vf_X4_108 (dd_ (by omega) (by decide)) rfl rfl (Nat.le_of_ble_eq_true rfl) kl_3 rfl io_2 (fun b1 b2 Q1 hb1 k1 kx1 => ?_)
    refine c_X4_demand (by omega) (fun q => absurd q (by decide)) RhG (hG.2 _ _) (Or.inr rfl) (f := s) (by omega) (by omega) (fun q => k1 _ _ _ (by omega) ?_) (fun q => absurd q (by decide))
    have K := ot_t K (show y 0 2 < 12 from (by omega))
    refine s_iconst dX4_readGift_25 ?_
    refine s_istore_n dX4_readGift_26 (by decide) rfl (L' := [_, _, _, _, _, _]) rfl ?_
    refine s_iload_n dX4_readGift_27 rfl ?_
    refine s_if_eq (tgt := 36) dX4_readGift_28 (by decide) (by first | exact hG.2 _ _ | exact b01_in _ | assumption | exact ⟨by omega, by omega⟩) (fun c2 => ?_) (fun c2 => ?_)
    · exact absurd c2 (by decide)
    · refine s_iload_n dX4_readGift_31 rfl ?_
      refine s_iconst dX4_readGift_32 ?_
      refine s_icmp_ne (tgt := 99) dX4_readGift_33 (by decide) (by first | exact hG.2 _ _ | exact b01_in _ | assumption | exact ⟨by omega, by omega⟩) (by first | exact hG.2 _ _ | exact b01_in _ | assumption | exact ⟨by omega, by omega⟩) (fun c3 => ?_) (fun c3 => ?_)
      · exact absurd c3 (by decide)
      · refine s_aload_n dX4_readGift_36 rfl ?_
        refine s_aload_n dX4_readGift_37 rfl ?_
        refine s_getr dX4_readGift_38 fl_X4_12 kl_3 (by decide) rfl io_2 (z := 0) rfl RhG.1.2.2 (W).1 ?_
        refine s_getr dX4_readGift_41 fl_X4_115 kl_5 (by decide) rfl W (z := 0) rfl (rf_5_0 hG.1 W) (rk_5_0 W).1 ?_
        
        refine s_callP (as := [_]) (¬ tT y T n a = -1) (fun q => (ot_x (ot_g K (Or.inl (nn_e q))) (by omega)).1) dX4_readGift_44 vf_X4_146 (dd_ (by omega) (by decide)) rfl rfl (Nat.le_of_ble_eq_true rfl) kl_3 rfl io_2 (fun b1 b2 Q1 hb1 k1 kx1 => ?_)
        refine c_X4_takeToldNameT (by omega) (fun q => hb1 q) E RhG (by omega) (by omega) (fun okhG1 hhG1 RhG1 => k1 _ _ _ okhG1 ?_) (fun q h' X => kx1 _ _ _ q ((ot_x (ot_g K (Or.inl (nn_e q))) (by omega)).2 h' X))
        have hG1 := RhG1.1.1
        have dhG1 := RhG1.2.1
        have phG1 := RhG1.2.2.1.1
        have tb := tT_bd y T n a
        have tk := okhG1
        have gv := RhG1.2.2.2.2.1 (tT y T n a) (by omega) (by omega)
        refine s_istore_n dX4_readGift_47 (by decide) rfl (L' := [_, _, _, _, _, _]) rfl ?_
        refine s_iload_n dX4_readGift_48 rfl ?_
        refine s_if_ne (tgt := 68) dX4_readGift_49 (by decide) (by first | exact hG1.2 _ _ | exact hG.2 _ _ | exact b01_in _ | assumption | exact ⟨by omega, by omega⟩) (fun c4 => ?_) (fun c4 => ?_)
        · refine s_iconst dX4_readGift_68 ?_
          refine s_istore_n dX4_readGift_69 (by decide) rfl (L' := [_, _, _, _, _, _]) rfl ?_
          refine s_aload_n dX4_readGift_70 rfl ?_
          refine s_aload_n dX4_readGift_71 rfl ?_
          refine s_getr dX4_readGift_72 fl_X4_12 kl_3 (by decide) rfl io_2 (z := 0) rfl RhG1.1.2.2 (W).1 ?_
          refine s_getr dX4_readGift_75 fl_X4_156 kl_5 (by decide) rfl W (z := 1) rfl (rf_5_1 hG1.1 W) (rk_5_1 W).1 ?_
          refine s_iload_n dX4_readGift_78 rfl ?_
          refine s_baload2 dX4_readGift_79 (rk_5_1 W) (by omega) (by omega) ?_
          refine s_if_ne (tgt := 91) dX4_readGift_80 (by decide) (by first | exact hG1.2 _ _ | exact hG.2 _ _ | exact b01_in _ | assumption | exact ⟨by omega, by omega⟩) (fun c5 => ?_) (fun c5 => ?_)
          · refine s_iconst dX4_readGift_91 ?_
            refine s_aload_n dX4_readGift_92 rfl ?_
            refine s_geti dX4_readGift_93 fl_X4_105 kl_3 (by decide) rfl io_2 (z := 6) rfl ?_
            
            have ngk : ¬ (¬ gk_ y 0 (tT y T n a)) := (fun z => z (gv.1.mp (by omega)))
            refine s_callP (as := [_, _]) (¬ gk_ y 0 (tT y T n a)) (fun q => (ot_x (ot_g K (Or.inr (Classical.byContradiction fun w => q w))) (by omega)).1) dX4_readGift_96 vf_X4_108 (dd_ (by omega) (by decide)) rfl rfl (Nat.le_of_ble_eq_true rfl) kl_3 rfl io_2 (fun b1 b2 Q1 hb1 k1 kx1 => ?_)
            exact c_X4_demand (by omega) (fun q => hb1 ngk) RhG1 (hG1.2 _ _) (Or.inl rfl) (f := nb_ T n a) (by omega) (by omega) (fun q => absurd rfl q) (fun q h' X => kx1 _ _ _ ngk ((ot_x (ot_g K (Or.inr (Classical.byContradiction fun w => ngk w))) (by omega)).2 h' X))
          · refine s_iload_n dX4_readGift_83 rfl ?_
            refine s_if_ne (tgt := 91) dX4_readGift_84 (by decide) (by first | exact hG1.2 _ _ | exact hG.2 _ _ | exact b01_in _ | assumption | exact ⟨by omega, by omega⟩) (fun c6 => ?_) (fun c6 => ?_)
            · exact absurd rfl c6
            · refine s_iconst dX4_readGift_87 ?_
              refine s_goto (tgt := 92) dX4_readGift_88 (by decide) ?_
              refine s_aload_n dX4_readGift_92 rfl ?_
              refine s_geti dX4_readGift_93 fl_X4_105 kl_3 (by decide) rfl io_2 (z := 6) rfl ?_
              
              refine s_callP (as := [_, _]) (¬ gk_ y 0 (tT y T n a)) (fun q => (ot_x (ot_g K (Or.inr (Classical.byContradiction fun w => q w))) (by omega)).1) dX4_readGift_96 vf_X4_108 (dd_ (by omega) (by decide)) rfl rfl (Nat.le_of_ble_eq_true rfl) kl_3 rfl io_2 (fun b1 b2 Q1 hb1 k1 kx1 => ?_)
              refine c_X4_demand (by omega) (fun q => absurd q (by decide)) RhG1 (hG1.2 _ _) (Or.inr rfl) (f := nb_ T n a) (by omega) (by omega) (fun q => k1 _ _ _ (fun z => (gv.1.mpr z) (by omega)) ?_) (fun q => absurd q (by decide))
              have gok : ¬ gk_ y 0 (tT y T n a) := (fun z => (gv.1.mpr z) (by omega))
              have K := (ot_u K (fun z => z.elim tk gok))
              refine s_iconst dX4_readGift_99 ?_
              refine s_istore_n dX4_readGift_100 (by decide) rfl (L' := [_, _, _, _, _, _]) rfl ?_
              refine s_iload_n dX4_readGift_101 rfl ?_
              refine s_if_eq (tgt := 124) dX4_readGift_102 (by decide) (by first | exact hG1.2 _ _ | exact hG.2 _ _ | exact b01_in _ | assumption | exact ⟨by omega, by omega⟩) (fun c7 => ?_) (fun c7 => ?_)
              · exact absurd c7 (by decide)
              · refine s_aload_n dX4_readGift_105 rfl ?_
                refine s_iconst dX4_readGift_106 ?_
                refine s_iload_n dX4_readGift_107 rfl ?_
                refine s_iconst dX4_readGift_108 ?_
                refine s_icmp_ne (tgt := 117) dX4_readGift_109 (by decide) (by first | exact hG1.2 _ _ | exact hG.2 _ _ | exact b01_in _ | assumption | exact ⟨by omega, by omega⟩) (by first | exact hG1.2 _ _ | exact hG.2 _ _ | exact b01_in _ | assumption | exact ⟨by omega, by omega⟩) (fun c8 => ?_) (fun c8 => ?_)
                · refine s_sipush dX4_readGift_117 (by decide) ?_
                  
                  refine s_callP (as := [_, _]) (okN T n (wn_ T n a) 1 9999) (fun q => (ot_x (ot_f K q) (by omega)).1) dX4_readGift_120 vf_X4_71 (dd_ (by omega) (by decide)) rfl rfl (Nat.le_of_ble_eq_true rfl) kl_3 rfl io_2 (fun b1 b2 Q1 hb1 k1 kx1 => ?_)
                  refine c_X4_takeNumber (by omega) ⟨by omega, by omega⟩ ⟨by omega, by omega⟩ (fun q => hb1 q) E RhG1 (by omega) (by omega) (fun okhG2 hhG2 RhG2 => k1 _ _ _ okhG2 ?_) (fun q h' X => kx1 _ _ _ q ((ot_x (ot_f K q) (by omega)).2 h' X))
                  have hG2 := RhG2.1.1
                  have dhG2 := RhG2.2.1
                  have phG2 := RhG2.2.2.1.1
                  have K := ot_t K okhG2
                  have ohG2 := okhG2.2
                  refine s_istore_n dX4_readGift_123 (by decide) rfl (L' := [_, _, _, _, _, _]) rfl ?_
                  refine s_aload_n dX4_readGift_124 rfl ?_
                  refine s_getsr dX4_readGift_125 (C := "WillHouse$Word") (nm := "TO") (ds := "LWillHouse$Word;") (ref := "") (z := 1208) (by decide +kernel) fl_X4_159 ?_
                  
                  refine s_callP (as := [_]) (okW T n (dn_ T n (wn_ T n a)) 8) (fun q => (ot_x (ot_f K q) (by omega)).1) dX4_readGift_128 vf_X4_142 (dd_ (by omega) (by decide)) rfl rfl (Nat.le_of_ble_eq_true rfl) kl_3 rfl io_2 (fun b1 b2 Q1 hb1 k1 kx1 => ?_)
                  refine c_X4_takeThis (j := 8) (by decide) (by omega) (fun q => hb1 q) E RhG2 (by omega) (by omega) (fun okhG3 hhG3 RhG3 => k1 _ _ _ okhG3 ?_) (fun q h' X => kx1 _ _ _ q ((ot_x (ot_f K q) (by omega)).2 h' X))
                  have hG3 := RhG3.1.1
                  have dhG3 := RhG3.2.1
                  have phG3 := RhG3.2.2.1.1
                  have K := ot_t K okhG3
                  refine s_aload_n dX4_readGift_131 rfl ?_
                  refine s_aload_n dX4_readGift_132 rfl ?_
                  refine s_getr dX4_readGift_133 fl_X4_12 kl_3 (by decide) rfl io_2 (z := 0) rfl RhG3.1.2.2 (W).1 ?_
                  refine s_getr dX4_readGift_136 fl_X4_131 kl_5 (by decide) rfl W (z := 3) rfl (rf_5_3 hG3.1 W) (rk_5_3 W).1 ?_
                  
                  refine s_callP (as := [_]) (¬ tP y T n (wn_ T n (dn_ T n (wn_ T n a))) = -1) (fun q => (ot_x (ot_g K (nn_e q)) (by omega)).1) dX4_readGift_139 vf_X4_146 (dd_ (by omega) (by decide)) rfl rfl (Nat.le_of_ble_eq_true rfl) kl_3 rfl io_2 (fun b1 b2 Q1 hb1 k1 kx1 => ?_)
                  refine c_X4_takeToldNameP (by omega) (fun q => hb1 q) E RhG3 (by omega) (by omega) (fun okhG4 hhG4 RhG4 => k1 _ _ _ okhG4 ?_) (fun q h' X => kx1 _ _ _ q ((ot_x (ot_g K (nn_e q)) (by omega)).2 h' X))
                  have hG4 := RhG4.1.1
                  have dhG4 := RhG4.2.1
                  have phG4 := RhG4.2.2.1.1
                  have pb := tP_bd y T n (wn_ T n (dn_ T n (wn_ T n a)))
                  have pk := okhG4
                  have K := ot_u K pk
                  refine s_istore dX4_readGift_142 (by decide) rfl (L' := [_, _, _, _, _, _]) rfl ?_
                  refine s_iload_n dX4_readGift_144 rfl ?_
                  refine s_iconst dX4_readGift_145 ?_
                  refine s_icmp_eq (tgt := 154) dX4_readGift_146 (by decide) (by first | exact hG4.2 _ _ | exact hG.2 _ _ | exact b01_in _ | assumption | exact ⟨by omega, by omega⟩) (by first | exact hG4.2 _ _ | exact hG.2 _ _ | exact b01_in _ | assumption | exact ⟨by omega, by omega⟩) (fun c9 => ?_) (fun c9 => ?_)
                  · exact absurd c9 (by decide)
                  · refine s_iload_n dX4_readGift_149 rfl ?_
                    refine s_iconst dX4_readGift_150 ?_
                    refine s_icmp_ne (tgt := 161) dX4_readGift_151 (by decide) (by first | exact hG4.2 _ _ | exact hG.2 _ _ | exact b01_in _ | assumption | exact ⟨by omega, by omega⟩) (by first | exact hG4.2 _ _ | exact hG.2 _ _ | exact b01_in _ | assumption | exact ⟨by omega, by omega⟩) (fun c10 => ?_) (fun c10 => ?_)
                    · exact absurd c10 (by decide)
                    · refine s_aload_n dX4_readGift_154 rfl ?_
                      
                      refine s_callP (as := []) ((pgR 1 T n (wn_ T n (wn_ T n (dn_ T n (wn_ T n a)))) y).1 = -1) (fun q => ((ot_f K q).2 q).1) dX4_readGift_155 vf_X4_162 (dd_ (by omega) (by decide)) rfl rfl (Nat.le_of_ble_eq_true rfl) kl_3 rfl io_2 (fun b1 b2 Q1 hb1 k1 kx1 => ?_)
                      refine c_X4_takeRank (by omega) (fun q => hb1 q) E RhG4 (by omega) (by omega) (fun okhG5 shG5 hhG5 RhG5 r1 r2 => k1 _ _ _ okhG5 ?_) (fun q h' X => kx1 _ _ _ q (((ot_f K q).2 q).2 h' X))
                      have hG5 := RhG5.1.1
                      have dhG5 := RhG5.2.1
                      have phG5 := RhG5.2.2.1.1
                      have K := ot_t K okhG5
                      refine s_goto (tgt := 162) dX4_readGift_158 (by decide) ?_
                      refine s_istore dX4_readGift_162 (by decide) rfl (L' := [_, _, _, _, _, _]) rfl ?_
                      refine s_aload_n dX4_readGift_164 rfl ?_
                      refine s_getr dX4_readGift_165 fl_X4_12 kl_3 (by decide) rfl io_2 (z := 0) rfl RhG5.1.2.2 (W).1 ?_
                      refine s_iload_n dX4_readGift_168 rfl ?_
                      refine s_iload dX4_readGift_169 rfl ?_
                      refine s_iload_n dX4_readGift_171 rfl ?_
                      refine s_iload_n dX4_readGift_172 rfl ?_
                      refine s_iload dX4_readGift_173 rfl ?_
                      refine s_callV (d' := d - 1) (bc' := 0) (bs' := 0) (as := [_, _, _, _, _]) dX4_readGift_175 vf_X4_165 (dd_ (by omega) (by decide)) ⟨Nat.zero_le _, Nat.zero_le _⟩ rfl rfl (Nat.le_of_ble_eq_true rfl) kl_5 rfl W ?_
                      exact c_X6_addGift W hG5 phG5.2.2 (by omega) (by omega) ⟨by omega, by omega⟩ ⟨by omega, by omega⟩ ⟨by omega, by omega⟩ ⟨by omega, by omega⟩ ⟨by omega, by omega⟩ (fun _ => ⟨by omega, by omega⟩) (fun q => absurd q (by decide)) (fun _ => s_return dX4_readGift_178 rfl (ot_ok K (by rw [ygi_0, fu_ne (by omega)]) (by omega) (by omega) (rs_gu (k := 2) (p := tP y T n (wn_ T n (dn_ T n (wn_ T n a)))) (t := tT y T n a) (mm := (dv_ T n (wn_ T n a))) (r := ((pgR 1 T n (wn_ T n (wn_ T n (dn_ T n (wn_ T n a)))) y).2.2 0 0)) E RhG5 (by omega) (by omega) (by omega) (by omega) (by omega) (by omega) (by omega) (by omega) (by omega) (by omega) (Or.inr (Or.inl ⟨rfl, rfl⟩))))) (fun _ q => absurd rfl q)
                · exact absurd c8 (by decide)
        · exact absurd c4 (by decide)
set_option maxRecDepth 100000 in
set_option maxHeartbeats 4000000 in
theorem c_X4_readGift3  (hd : 11 ≤ d) (E : EV_ h0 v n T) (RhG : RS_ h0 v n (y 0 1) a s y h) (a0 : 0 ≤ a) (a1 : a ≤ n) (s0 : 0 ≤ s) (s1 : s ≤ 400) (K : OT_ Q bc bs h0 v n (pGift 3 T n s a y))  : Cl_ yX4_readGift MX4_readGift d bc bs [(2, 2), (0, 3)] nN h Q := by
  refine s_enter pn_X4 rfl (Nat.le_of_ble_eq_true rfl) (L := [(2, _), (0, _), (9, 0), (9, 0), (9, 0), (9, 0)]) rfl ?_
  have hG := RhG.1.1
  have dhG := RhG.2.1
  have phG := RhG.2.2.1.1
  have hn := E.2.1
  have W := ev_w E
  have i2 := RhG.2.2.2.2.2.2.1
  have iT := i2.1
  have iP := i2.2.1
  have iG := i2.2.2
  rw [pg_3 a0 a1] at K
  have w1 := dn_bd (T := T) (n := n) (a := a) (by omega)
  have v1 := nv_bd (T := T) (n := n) (s := nb_ T n (a))
  have w2 := wn_bd (T := T) (n := n) (a := (dn_ T n a)) (by omega)
  have w3 := wn_bd (T := T) (n := n) (a := (wn_ T n (dn_ T n a))) (by omega)
  refine s_aload_n dX4_readGift_0 rfl ?_
  refine s_aload_n dX4_readGift_1 rfl ?_
  refine s_getr dX4_readGift_2 fl_X4_12 kl_3 (by decide) rfl io_2 (z := 0) rfl RhG.1.2.2 (W).1 ?_
  refine s_geti dX4_readGift_5 fl_X4_149 kl_5 (by decide) rfl W (z := 7) rfl ?_
  refine s_bipush dX4_readGift_8 (by decide) ?_
  refine s_icmp_ge (tgt := 17) dX4_readGift_10 (by decide) (by first | exact hG.2 _ _ | exact b01_in _ | assumption | exact ⟨by omega, by omega⟩) (by first | exact hG.2 _ _ | exact b01_in _ | assumption | exact ⟨by omega, by omega⟩) (fun c1 => ?_) (fun c1 => ?_)
  · refine s_iconst dX4_readGift_17 ?_
    refine s_aload_n dX4_readGift_18 rfl ?_
    refine s_geti dX4_readGift_19 fl_X4_105 kl_3 (by decide) rfl io_2 (z := 6) rfl ?_
    
    refine s_callP (as := [_, _]) (y 0 2 < 12) (fun q => (ot_x (ot_f K q) (by omega)).1) dX4_readGift_22 vf_X4_108 (dd_ (by omega) (by decide)) rfl rfl (Nat.le_of_ble_eq_true rfl) kl_3 rfl io_2 (fun b1 b2 Q1 hb1 k1 kx1 => ?_)
    exact c_X4_demand (by omega) (fun q => hb1 (by omega)) RhG (hG.2 _ _) (Or.inl rfl) (f := s) (by omega) (by omega) (fun q => absurd rfl q) (fun q h' X => kx1 _ _ _ (by omega) ((ot_x (ot_f K (by omega)) (by omega)).2 h' X))
  · refine s_iconst dX4_readGift_13 ?_
    refine s_goto (tgt := 18) dX4_readGift_14 (by decide) ?_
    refine s_aload_n dX4_readGift_18 rfl ?_
    refine s_geti dX4_readGift_19 fl_X4_105 kl_3 (by decide) rfl io_2 (z := 6) rfl ?_
    
    refine s_callP (as := [_, _]) (y 0 2 < 12) (fun q => (ot_x (ot_f K q) (by omega)).1) dX4_readGift_22 vf_X4_108 (dd_ (by omega) (by decide)) rfl rfl (Nat.le_of_ble_eq_true rfl) kl_3 rfl io_2 (fun b1 b2 Q1 hb1 k1 kx1 => ?_)
    refine c_X4_demand (by omega) (fun q => absurd q (by decide)) RhG (hG.2 _ _) (Or.inr rfl) (f := s) (by omega) (by omega) (fun q => k1 _ _ _ (by omega) ?_) (fun q => absurd q (by decide))
    have K := ot_t K (show y 0 2 < 12 from (by omega))
    refine s_iconst dX4_readGift_25 ?_
    refine s_istore_n dX4_readGift_26 (by decide) rfl (L' := [_, _, _, _, _, _]) rfl ?_
    refine s_iload_n dX4_readGift_27 rfl ?_
    refine s_if_eq (tgt := 36) dX4_readGift_28 (by decide) (by first | exact hG.2 _ _ | exact b01_in _ | assumption | exact ⟨by omega, by omega⟩) (fun c2 => ?_) (fun c2 => ?_)
    · exact absurd c2 (by decide)
    · refine s_iload_n dX4_readGift_31 rfl ?_
      refine s_iconst dX4_readGift_32 ?_
      refine s_icmp_ne (tgt := 99) dX4_readGift_33 (by decide) (by first | exact hG.2 _ _ | exact b01_in _ | assumption | exact ⟨by omega, by omega⟩) (by first | exact hG.2 _ _ | exact b01_in _ | assumption | exact ⟨by omega, by omega⟩) (fun c3 => ?_) (fun c3 => ?_)
      · refine s_iconst dX4_readGift_99 ?_
        refine s_istore_n dX4_readGift_100 (by decide) rfl (L' := [_, _, _, _, _, _]) rfl ?_
        refine s_iload_n dX4_readGift_101 rfl ?_
        refine s_if_eq (tgt := 124) dX4_readGift_102 (by decide) (by first | exact hG.2 _ _ | exact b01_in _ | assumption | exact ⟨by omega, by omega⟩) (fun c4 => ?_) (fun c4 => ?_)
        · exact absurd c4 (by decide)
        · refine s_aload_n dX4_readGift_105 rfl ?_
          refine s_iconst dX4_readGift_106 ?_
          refine s_iload_n dX4_readGift_107 rfl ?_
          refine s_iconst dX4_readGift_108 ?_
          refine s_icmp_ne (tgt := 117) dX4_readGift_109 (by decide) (by first | exact hG.2 _ _ | exact b01_in _ | assumption | exact ⟨by omega, by omega⟩) (by first | exact hG.2 _ _ | exact b01_in _ | assumption | exact ⟨by omega, by omega⟩) (fun c5 => ?_) (fun c5 => ?_)
          · exact absurd c5 (by decide)
          · refine s_bipush dX4_readGift_112 (by decide) ?_
            refine s_goto (tgt := 120) dX4_readGift_114 (by decide) ?_
            
            refine s_callP (as := [_, _]) (okN T n a 1 9) (fun q => (ot_x (ot_f K q) (by omega)).1) dX4_readGift_120 vf_X4_71 (dd_ (by omega) (by decide)) rfl rfl (Nat.le_of_ble_eq_true rfl) kl_3 rfl io_2 (fun b1 b2 Q1 hb1 k1 kx1 => ?_)
            refine c_X4_takeNumber (by omega) ⟨by omega, by omega⟩ ⟨by omega, by omega⟩ (fun q => hb1 q) E RhG (by omega) (by omega) (fun okhG1 hhG1 RhG1 => k1 _ _ _ okhG1 ?_) (fun q h' X => kx1 _ _ _ q ((ot_x (ot_f K q) (by omega)).2 h' X))
            have hG1 := RhG1.1.1
            have dhG1 := RhG1.2.1
            have phG1 := RhG1.2.2.1.1
            have K := ot_t K okhG1
            have ohG1 := okhG1.2
            refine s_istore_n dX4_readGift_123 (by decide) rfl (L' := [_, _, _, _, _, _]) rfl ?_
            refine s_aload_n dX4_readGift_124 rfl ?_
            refine s_getsr dX4_readGift_125 (C := "WillHouse$Word") (nm := "TO") (ds := "LWillHouse$Word;") (ref := "") (z := 1208) (by decide +kernel) fl_X4_159 ?_
            
            refine s_callP (as := [_]) (okW T n (dn_ T n a) 8) (fun q => (ot_x (ot_f K q) (by omega)).1) dX4_readGift_128 vf_X4_142 (dd_ (by omega) (by decide)) rfl rfl (Nat.le_of_ble_eq_true rfl) kl_3 rfl io_2 (fun b1 b2 Q1 hb1 k1 kx1 => ?_)
            refine c_X4_takeThis (j := 8) (by decide) (by omega) (fun q => hb1 q) E RhG1 (by omega) (by omega) (fun okhG2 hhG2 RhG2 => k1 _ _ _ okhG2 ?_) (fun q h' X => kx1 _ _ _ q ((ot_x (ot_f K q) (by omega)).2 h' X))
            have hG2 := RhG2.1.1
            have dhG2 := RhG2.2.1
            have phG2 := RhG2.2.2.1.1
            have K := ot_t K okhG2
            refine s_aload_n dX4_readGift_131 rfl ?_
            refine s_aload_n dX4_readGift_132 rfl ?_
            refine s_getr dX4_readGift_133 fl_X4_12 kl_3 (by decide) rfl io_2 (z := 0) rfl RhG2.1.2.2 (W).1 ?_
            refine s_getr dX4_readGift_136 fl_X4_131 kl_5 (by decide) rfl W (z := 3) rfl (rf_5_3 hG2.1 W) (rk_5_3 W).1 ?_
            
            refine s_callP (as := [_]) (¬ tP y T n (wn_ T n (dn_ T n a)) = -1) (fun q => (ot_x (ot_g K (nn_e q)) (by omega)).1) dX4_readGift_139 vf_X4_146 (dd_ (by omega) (by decide)) rfl rfl (Nat.le_of_ble_eq_true rfl) kl_3 rfl io_2 (fun b1 b2 Q1 hb1 k1 kx1 => ?_)
            refine c_X4_takeToldNameP (by omega) (fun q => hb1 q) E RhG2 (by omega) (by omega) (fun okhG3 hhG3 RhG3 => k1 _ _ _ okhG3 ?_) (fun q h' X => kx1 _ _ _ q ((ot_x (ot_g K (nn_e q)) (by omega)).2 h' X))
            have hG3 := RhG3.1.1
            have dhG3 := RhG3.2.1
            have phG3 := RhG3.2.2.1.1
            have pb := tP_bd y T n (wn_ T n (dn_ T n a))
            have pk := okhG3
            have K := ot_u K pk
            refine s_istore dX4_readGift_142 (by decide) rfl (L' := [_, _, _, _, _, _]) rfl ?_
            refine s_iload_n dX4_readGift_144 rfl ?_
            refine s_iconst dX4_readGift_145 ?_
            refine s_icmp_eq (tgt := 154) dX4_readGift_146 (by decide) (by first | exact hG3.2 _ _ | exact hG.2 _ _ | exact b01_in _ | assumption | exact ⟨by omega, by omega⟩) (by first | exact hG3.2 _ _ | exact hG.2 _ _ | exact b01_in _ | assumption | exact ⟨by omega, by omega⟩) (fun c6 => ?_) (fun c6 => ?_)
            · exact absurd c6 (by decide)
            · refine s_iload_n dX4_readGift_149 rfl ?_
              refine s_iconst dX4_readGift_150 ?_
              refine s_icmp_ne (tgt := 161) dX4_readGift_151 (by decide) (by first | exact hG3.2 _ _ | exact hG.2 _ _ | exact b01_in _ | assumption | exact ⟨by omega, by omega⟩) (by first | exact hG3.2 _ _ | exact hG.2 _ _ | exact b01_in _ | assumption | exact ⟨by omega, by omega⟩) (fun c7 => ?_) (fun c7 => ?_)
              · refine s_iconst dX4_readGift_161 ?_
                refine s_istore dX4_readGift_162 (by decide) rfl (L' := [_, _, _, _, _, _]) rfl ?_
                refine s_aload_n dX4_readGift_164 rfl ?_
                refine s_getr dX4_readGift_165 fl_X4_12 kl_3 (by decide) rfl io_2 (z := 0) rfl RhG3.1.2.2 (W).1 ?_
                refine s_iload_n dX4_readGift_168 rfl ?_
                refine s_iload dX4_readGift_169 rfl ?_
                refine s_iload_n dX4_readGift_171 rfl ?_
                refine s_iload_n dX4_readGift_172 rfl ?_
                refine s_iload dX4_readGift_173 rfl ?_
                refine s_callV (d' := d - 1) (bc' := 0) (bs' := 0) (as := [_, _, _, _, _]) dX4_readGift_175 vf_X4_165 (dd_ (by omega) (by decide)) ⟨Nat.zero_le _, Nat.zero_le _⟩ rfl rfl (Nat.le_of_ble_eq_true rfl) kl_5 rfl W ?_
                exact c_X6_addGift W hG3 phG3.2.2 (by omega) (by omega) ⟨by omega, by omega⟩ ⟨by omega, by omega⟩ ⟨by omega, by omega⟩ ⟨by omega, by omega⟩ ⟨by omega, by omega⟩ (fun q => absurd q (by decide)) (fun q => absurd q (by decide)) (fun q => absurd q (by decide)) (fun _ _ => s_return dX4_readGift_178 rfl (ot_ok K (by rw [ygi_0, fu_ne (by omega)]) (by omega) (by omega) (rs_gu (k := 3) (p := tP y T n (wn_ T n (dn_ T n a))) (t := -1) (mm := (dv_ T n a)) (r := (-1)) E RhG3 (by omega) (by omega) (by omega) (by omega) (by omega) (by omega) (by omega) (by omega) (by omega) (by omega) (Or.inr (Or.inr ⟨Or.inr rfl, rfl⟩)))))
              · exact absurd c7 (by decide)
      · exact absurd c3 (by decide)
end X4D
