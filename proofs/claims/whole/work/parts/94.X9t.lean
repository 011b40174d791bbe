/-! the reference reads: a death, a thing -/
theorem ln_thing {y h h1 : PH} {T : Int → Int} {n a v : Int} (P : LN_ y h) (t8 : y 0 0 < 8) (u : okU T n a) (v0 : 0 ≤ v) (v1 : v ≤ 9999) (f : ∀ x k : Int, ¬ (x = 196 + 11 ∧ k = y 0 0) → ¬ (x = 196 + 10 ∧ k = 0 + 4 * y 0 0 + 0) → ¬ (x = 196 ∧ 16 ≤ k ∧ k ≤ 19) → h1 x k = h x k) (e1 : h1 (196 + 11) (y 0 0) = nc_ T n a) (e2 : h1 (196 + 10) (0 + 4 * y 0 0 + 0) = v) (e3 : h1 196 19 = y 0 0 + 1) : LN_ (zput (ynt y T (nb_ T n a) (wl__ T n a)) (fu_ (y 1) (y 0 0) v)) h1 := by
  obtain ⟨⟨a1, a2, a3⟩, a4, a5, a6, a7, a8, ⟨b1, b2, b3, b4, b5, b6⟩, c1, c2⟩ := P
  have hT := b2.1
  have hP := b2.2.1
  have hN := b2.2.2
  generalize eY : zput (ynt y T (nb_ T n a) (wl__ T n a)) (fu_ (y 1) (y 0 0) v) = Y
  have E1 : Y 1 = fu_ (y 1) (y 0 0) v := by rw [← eY, zput_1]
  have E0 : Y 0 = fu_ (y 0) 0 (y 0 0 + 1) := by rw [← eY, zput_ne (by omega), ynt_0]
  have E10 : Y 10 = fu_ (y 10) (y 0 0) (wl__ T n a) := by rw [← eY, zput_ne (by omega), ynt_10]
  have En : Y (20 + y 0 0) = fun k => T (nb_ T n a + k) := by rw [← eY, zput_ne (by omega), ynt_n hT.1]
  have E : ∀ x : Int, ¬ x = 0 → ¬ x = 1 → ¬ x = 10 → ¬ x = 20 + y 0 0 → Y x = y x := fun x p q r s => by rw [← eY, zput_ne q, ynt_ne p r s]
  have E00 : Y 0 0 = y 0 0 + 1 := by rw [E0, fu_eq]
  have E01 : Y 0 1 = y 0 1 := by rw [E0, fu_ne (by omega)]
  have E02 : Y 0 2 = y 0 2 := by rw [E0, fu_ne (by omega)]
  have ET : ∀ t : Int, ¬ t = y 0 0 → 0 ≤ t → t < 8 → Y (20 + t) = y (20 + t) ∧ Y 10 t = y 10 t := fun t p q r => ⟨E _ (by omega) (by omega) (by omega) (by omega), by rw [E10, fu_ne p]⟩
  have EL : Y 10 (y 0 0) = wl__ T n a := by rw [E10, fu_eq]
  have ul := u.1
  have ul2 := u.2.1
  have nw : nk_ (fun k => T (nb_ T n a + k)) (wl__ T n a) := ⟨⟨ul, ul2⟩, we_lq, by rw [← wi_congr (T := T) (s := nb_ T n a) (fun k _ _ => rfl)]; exact u.2.2⟩
  have zf : ZF (fun _ => Y 1) := by rw [E1]; exact zf_fu (zf_z.mp b1) (by unfold zok; omega)
  refine ⟨⟨by rw [e3, E00], by rw [f _ _ (by omega) (by omega) (by omega), E01]; exact a2, by rw [f _ _ (by omega) (by omega) (by omega), E02]; exact a3⟩, fun k p q => ?_, fun t p q => ?_, fun t p q => ?_, fun p a b => ?_, fun g v p q r s => ?_, ⟨zf_z.mpr zf, ?_, ?_, ?_, ?_, ?_⟩, fun t p q => ?_, fun t p q => ?_⟩
  · rw [E1]
    by_cases c : k = 0 + 4 * y 0 0 + 0
    · rw [c, e2, pm_t (v := 0) (j := y 0 0) (by omega) (by omega) (by omega) (by omega), fu_eq]
    · rw [f _ _ (by omega) (by omega) (by omega), fu_ne (fun q2 => c (pm_inj p q (by omega) (by omega) (q2.trans (pm_t (v := 0) (j := y 0 0) (by omega) (by omega) (by omega) (by omega)).symm)))]
      exact a4 k p q
  · rw [E00] at q
    by_cases c : t = y 0 0
    · rw [c, e1, En, EL]
      unfold nc_
      rw [iC_t u]
    · rw [f _ _ (by omega) (by omega) (by omega), (ET t c p (by omega)).1, (ET t c p (by omega)).2]
      exact a5 t p (by omega)
  · rw [E01] at q
    rw [f _ _ (by omega) (by omega) (by omega), E (30 + t) (by omega) (by omega) (by omega) (by omega), E 11 (by omega) (by omega) (by omega) (by omega)]
    exact a6 t p q
  · rw [E01] at b
    rw [f _ _ (by omega) (by omega) (by omega), f _ _ (by omega) (by omega) (by omega), E 2 (by omega) (by omega) (by omega) (by omega), E 3 (by omega) (by omega) (by omega) (by omega)]
    exact a7 p a b
  · rw [E02] at q
    rw [f _ _ (by omega) (by omega) (by omega), E (5 + v) (by omega) (by omega) (by omega) (by omega)]
    exact a8 g v p q r s
  · unfold YC_
    rw [E00, E01, E02]
    omega
  · rw [E01]
    exact b3
  · unfold YP_
    rw [E01, E 2 (by omega) (by omega) (by omega) (by omega), E 3 (by omega) (by omega) (by omega) (by omega)]
    exact b4
  · unfold YG_
    rw [E00, E01, E02, E 5 (by omega) (by omega) (by omega) (by omega), E 6 (by omega) (by omega) (by omega) (by omega), E 7 (by omega) (by omega) (by omega) (by omega), E 8 (by omega) (by omega) (by omega) (by omega), E 9 (by omega) (by omega) (by omega) (by omega)]
    intro g g0 g1
    have q := b5 g g0 g1
    refine ⟨q.1, q.2.1, fun w => ?_, q.2.2.2⟩
    have q2 := q.2.2.1 w
    omega
  · refine ⟨fun t p q => ?_, fun t p q => ?_⟩
    · rw [E00] at q
      by_cases c : t = y 0 0
      · rw [c, En, EL]
        exact ⟨⟨ul, ul2⟩, fun j j0 j1 => we_lq j j0 (by omega)⟩
      · rw [(ET t c p (by omega)).1, (ET t c p (by omega)).2]
        exact b6.1 t p (by omega)
    · rw [E01] at q
      rw [E 11 (by omega) (by omega) (by omega) (by omega), E (30 + t) (by omega) (by omega) (by omega) (by omega)]
      exact b6.2 t p q
  · rw [E00] at q
    by_cases c : t = y 0 0
    · rw [c, En, EL]
      exact nw
    · rw [(ET t c p (by omega)).1, (ET t c p (by omega)).2]
      exact c1 t p (by omega)
  · rw [E01] at q
    rw [E 11 (by omega) (by omega) (by omega) (by omega), E (30 + t) (by omega) (by omega) (by omega) (by omega)]
    exact c2 t p q
section X9T
variable {d bc bs : Nat} {Q : PQ} {h h0 y : PH} {n a f : Int} {T : Int → Int}
set_option maxRecDepth 100000 in
set_option maxHeartbeats 4000000 in
theorem c_X9_deadLine  (hd : 9 ≤ d) (S : OK9 n T h a h) (P : LN_ y h) (cw : iw_ T (nb_ T n a) (wl__ T n a) (24 + 18)) (k : ∀ h1 : PH, LX_ n T h (pDead T n (wn_ T n a) y) h1 → Q.1 none nN h1) : Cl_ yX9_deadLine MX9_deadLine d bc bs [(2, 196)] nN h Q := by
  refine s_enter pn_X9 rfl (Nat.le_of_ble_eq_true rfl) (L := [(2, _), (9, 0), (9, 0)]) rfl ?_
  have hG := S.1.1
  have ab := ok_0 S
  have nb0 := nb_0 S
  have yc := ln_c P
  have wle : wl__ T n a = wn_ T n a - nb_ T n a := rfl
  refine s_aload_n dX9_deadLine_0 rfl ?_
  refine s_ldcS (j := 18) (z := 1000 + ((24 + 18 : Nat) : Int)) dX9_deadLine_1 (by decide) rfl rfl (by decide) ?_
  refine s_callV (d' := d - 1) (bc' := 0) (bs' := 0) (as := [_]) dX9_deadLine_3 vf_X9_221 (dd_ (by omega) (by decide)) ⟨Nat.zero_le _, Nat.zero_le _⟩ rfl rfl (Nat.le_of_ble_eq_true rfl) kl_7 rfl io_196 ?_
  refine c_X9_must (j := 24 + 18) (by decide) (by omega) S (fun cc1 h1 S1 e1 => ?_) (fun cc _ _ => absurd cw cc)
  have hG1 := S1.1.1
  have hG := hG1
  have S := S1
  have nb0 := nb_0 S
  refine s_aload_n dX9_deadLine_6 rfl ?_
  refine s_geti dX9_deadLine_7 fl_X9_104 kl_7 (by decide) rfl io_196 (z := 16) rfl ?_
  refine s_istore_n dX9_deadLine_10 (by decide) rfl (L' := [_, _, _]) rfl ?_
  refine s_aload_n dX9_deadLine_11 rfl ?_
  refine s_callV (d' := d - 1) (bc' := 0) (bs' := 0) (as := []) dX9_deadLine_12 vf_X9_110 (dd_ (by omega) (by decide)) ⟨Nat.zero_le _, Nat.zero_le _⟩ rfl rfl (Nat.le_of_ble_eq_true rfl) kl_7 rfl io_196 ?_
  refine c_X9_here S.1 (fun hhG2 RhG2 fhG2 ehG2 => ?_)
  have hG2 := RhG2.1
  have hG := hG2
  have e17 := ehG2.trans (ok_nb S)
  have S := ok_at S RhG2 fhG2 ehG2
  refine s_pop dX9_deadLine_15 rfl ?_
  refine s_aload_n dX9_deadLine_16 rfl ?_
  refine s_geti dX9_deadLine_17 fl_X9_104 kl_7 (by decide) rfl io_196 (z := 16) rfl ?_
  rw [e17]
  refine s_istore_n dX9_deadLine_20 (by decide) rfl (L' := [_, _, _]) rfl ?_
  refine s_aload_n dX9_deadLine_21 rfl ?_
  refine s_callV (d' := d - 1) (bc' := 0) (bs' := 0) (as := []) dX9_deadLine_22 vf_X9_233 (dd_ (by omega) (by decide)) ⟨Nat.zero_le _, Nat.zero_le _⟩ rfl rfl (Nat.le_of_ble_eq_true rfl) kl_7 rfl io_196 ?_
  refine c_X9_personHere (by omega) S P (fun cc3 h3 S3 e3 => ?_) (fun cc4 h4 W4 => ?_)
  · have hG3 := S3.1.1
    have hG := hG3
    have S := S3
    have nb0 := nb_0 S
    have cp := cc3
    have pb := tP_bd y T n (wn_ T n a)
    have pb2 : 0 ≤ tP y T n (wn_ T n a) ∧ tP y T n (wn_ T n a) < y 0 1 := by omega
    have p01 := (P.2.2.2.2.2.2.1.1.2.1 (tP y T n (wn_ T n a)) pb2.1 (by omega)).1
    refine s_istore_n dX9_deadLine_25 (by decide) rfl (L' := [_, _, _]) rfl ?_
    refine s_aload_n dX9_deadLine_26 rfl ?_
    refine s_callV (d' := d - 1) (bc' := 0) (bs' := 0) (as := []) dX9_deadLine_27 vf_X9_114 (dd_ (by omega) (by decide)) ⟨Nat.zero_le _, Nat.zero_le _⟩ rfl rfl (Nat.le_of_ble_eq_true rfl) kl_7 rfl io_196 ?_
    refine c_X9_isWrong hG3 ?_
    refine s_if_ne (tgt := 51) dX9_deadLine_30 (by decide) (by first | exact hG3.2 _ _ | exact hG.2 _ _ | exact b01_in _ | assumption | exact ⟨by omega, by omega⟩) (fun c1 => ?_) (fun c1 => ?_)
    · exact absurd S.2.2.1 (b01_n.mp c1)
    · have c1 := b01_0.mp c1
      refine s_aload_n dX9_deadLine_33 rfl ?_
      refine s_getr dX9_deadLine_34 fl_X9_43 kl_7 (by decide) rfl io_196 (z := 22) rfl (rf_7_22 hG3.1 io_196) (rk_7_22 io_196).1 ?_
      refine s_bipush dX9_deadLine_37 (by decide) ?_
      refine s_iload_n dX9_deadLine_39 rfl ?_
      refine s_iadd dX9_deadLine_40 ?_
      have P9 := ln_aw P S.2.1
      have e32 := P9.2.1 (32 + tP y T n (wn_ T n a)) (by omega) (by omega)
      rw [pm_h (by omega)] at e32
      refine s_iaload dX9_deadLine_41 (rk_7_22 io_196) (by omega) (by omega) ?_
      rw [e32]
      refine s_iconst dX9_deadLine_42 ?_
      refine s_icmp_ne (tgt := 51) dX9_deadLine_43 (by decide) (by first | exact hG3.2 _ _ | exact hG.2 _ _ | exact b01_in _ | assumption | exact ⟨by omega, by omega⟩) (by first | exact hG3.2 _ _ | exact hG.2 _ _ | exact b01_in _ | assumption | exact ⟨by omega, by omega⟩) (fun c2 => ?_) (fun c2 => ?_)
      · refine s_aload_n dX9_deadLine_51 rfl ?_
        refine s_getr dX9_deadLine_52 fl_X9_43 kl_7 (by decide) rfl io_196 (z := 22) rfl (rf_7_22 hG3.1 io_196) (rk_7_22 io_196).1 ?_
        refine s_bipush dX9_deadLine_55 (by decide) ?_
        refine s_iload_n dX9_deadLine_57 rfl ?_
        refine s_iadd dX9_deadLine_58 ?_
        refine s_aload_n dX9_deadLine_59 rfl ?_
        refine s_callV (d' := d - 1) (bc' := 0) (bs' := 0) (as := []) dX9_deadLine_60 vf_X9_114 (dd_ (by omega) (by decide)) ⟨Nat.zero_le _, Nat.zero_le _⟩ rfl rfl (Nat.le_of_ble_eq_true rfl) kl_7 rfl io_196 ?_
        refine c_X9_isWrong hG3 ?_
        refine s_if_eq (tgt := 78) dX9_deadLine_63 (by decide) (by first | exact hG3.2 _ _ | exact hG.2 _ _ | exact b01_in _ | assumption | exact ⟨by omega, by omega⟩) (fun c3 => ?_) (fun c3 => ?_)
        · have c3 := b01_0.mp c3
          refine s_iconst dX9_deadLine_78 ?_
          refine s_iastoreG dX9_deadLine_79 (rk_7_22 io_196) (by omega) (by omega) hG3 (by first | exact hG3.2 _ _ | exact hG.2 _ _ | exact b01_in _ | assumption | exact ⟨by omega, by omega⟩) (fun hG5 => ?_)
          have P9 := ln_aw P S.2.1
          refine s_return dX9_deadLine_80 rfl (k _ (lx_o (b := 0) S hG5 (fun x k p q => hs_ne _ (by omega)) (by unfold pDead; rw [iC_f (fun q => q ⟨cp, by omega⟩)]) (ln_row P9 (fun x k p q => hs_ne _ (by omega)) (row_put P9.2.1 (by omega) (by omega) (pm_h (by omega))) (zf_fu (zf_z.mp P.2.2.2.2.2.2.1.1) (by unfold zok; omega)))))
        · exact absurd S.2.2.1 (b01_n.mp c3)
      · refine s_aload_n dX9_deadLine_46 rfl ?_
        refine s_iload_n dX9_deadLine_47 rfl ?_
        refine s_callV (d' := d - 1) (bc' := 0) (bs' := 0) (as := [_]) dX9_deadLine_48 vf_X9_137 (dd_ (by omega) (by decide)) ⟨Nat.zero_le _, Nat.zero_le _⟩ rfl rfl (Nat.le_of_ble_eq_true rfl) kl_7 rfl io_196 ?_
        refine c_X9_wrong hG3 ⟨by omega, by omega⟩ (fun h6 g6 f6 w6 => ?_)
        have hG6 := g6
        have hG := hG6
        rw [if_pos S.2.2.1] at w6
        have W := wr_of S g6 (fun x y c => f6 x y (by omega)) (f6 _ _ (by omega)) w6 (by omega) (by omega)
        have hu : (pDead T n (wn_ T n a) y).1 = nb_ T n (wn_ T n a) := by unfold pDead; rw [iC_t (fun q => by have q2 := q.2; omega)]
        refine s_aload_n dX9_deadLine_51 rfl ?_
        refine s_getr dX9_deadLine_52 fl_X9_43 kl_7 (by decide) rfl io_196 (z := 22) rfl (rf_7_22 hG6.1 io_196) (rk_7_22 io_196).1 ?_
        refine s_bipush dX9_deadLine_55 (by decide) ?_
        refine s_iload_n dX9_deadLine_57 rfl ?_
        refine s_iadd dX9_deadLine_58 ?_
        refine s_aload_n dX9_deadLine_59 rfl ?_
        refine s_callV (d' := d - 1) (bc' := 0) (bs' := 0) (as := []) dX9_deadLine_60 vf_X9_114 (dd_ (by omega) (by decide)) ⟨Nat.zero_le _, Nat.zero_le _⟩ rfl rfl (Nat.le_of_ble_eq_true rfl) kl_7 rfl io_196 ?_
        refine c_X9_isWrong hG6 ?_
        refine s_if_eq (tgt := 78) dX9_deadLine_63 (by decide) (by first | exact hG6.2 _ _ | exact hG.2 _ _ | exact b01_in _ | assumption | exact ⟨by omega, by omega⟩) (fun c4 => ?_) (fun c4 => ?_)
        · exact absurd (wr_ne W) (b01_0.mp c4)
        · have c4 := b01_n.mp c4
          refine s_aload_n dX9_deadLine_66 rfl ?_
          refine s_getr dX9_deadLine_67 fl_X9_43 kl_7 (by decide) rfl io_196 (z := 22) rfl (rf_7_22 hG6.1 io_196) (rk_7_22 io_196).1 ?_
          refine s_bipush dX9_deadLine_70 (by decide) ?_
          refine s_iload_n dX9_deadLine_72 rfl ?_
          refine s_iadd dX9_deadLine_73 ?_
          refine s_iaload dX9_deadLine_74 (rk_7_22 io_196) (by omega) (by omega) ?_
          refine s_goto (tgt := 79) dX9_deadLine_75 (by decide) ?_
          refine s_iastoreG dX9_deadLine_79 (rk_7_22 io_196) (by omega) (by omega) hG6 (by first | exact hG6.2 _ _ | exact hG.2 _ _ | exact b01_in _ | assumption | exact ⟨by omega, by omega⟩) (fun hG7 => ?_)
          have X9 := lx_w W hu
          refine s_return dX9_deadLine_80 rfl (k _ ⟨⟨hG7, (hs_ne _ (by omega)).trans X9.1.2.1, by rw [hs_ne _ (by omega)]; exact X9.1.2.2.1, X9.1.2.2.2.1, fun k p q => (hs_ne _ (by omega)).trans (X9.1.2.2.2.2 k p q)⟩, fun x k p q => (hs_ne _ (by omega)).trans (X9.2.1 x k p q), ?_⟩)
          rcases X9.2.2 with q | q
          · exact absurd (hu.symm.trans q.1) (by omega)
          · exact Or.inr ⟨q.1, (hs_ne _ (by omega)).trans q.2.1, q.2.2⟩
  · have hG4 := W4.1.1
    have hG := hG4
    have W := W4
    have cc := cc4
    have hu : (pDead T n (wn_ T n a) y).1 = nb_ T n (wn_ T n a) := by unfold pDead; rw [iC_t (fun q => q.1 cc)]
    refine s_istore_n dX9_deadLine_25 (by decide) rfl (L' := [_, _, _]) rfl ?_
    refine s_aload_n dX9_deadLine_26 rfl ?_
    refine s_callV (d' := d - 1) (bc' := 0) (bs' := 0) (as := []) dX9_deadLine_27 vf_X9_114 (dd_ (by omega) (by decide)) ⟨Nat.zero_le _, Nat.zero_le _⟩ rfl rfl (Nat.le_of_ble_eq_true rfl) kl_7 rfl io_196 ?_
    refine c_X9_isWrong hG4 ?_
    refine s_if_ne (tgt := 51) dX9_deadLine_30 (by decide) (by first | exact hG4.2 _ _ | exact hG.2 _ _ | exact b01_in _ | assumption | exact ⟨by omega, by omega⟩) (fun c5 => ?_) (fun c5 => ?_)
    · have c5 := b01_n.mp c5
      refine s_aload_n dX9_deadLine_51 rfl ?_
      refine s_getr dX9_deadLine_52 fl_X9_43 kl_7 (by decide) rfl io_196 (z := 22) rfl (rf_7_22 hG4.1 io_196) (rk_7_22 io_196).1 ?_
      refine s_bipush dX9_deadLine_55 (by decide) ?_
      refine s_iload_n dX9_deadLine_57 rfl ?_
      refine s_iadd dX9_deadLine_58 ?_
      refine s_aload_n dX9_deadLine_59 rfl ?_
      refine s_callV (d' := d - 1) (bc' := 0) (bs' := 0) (as := []) dX9_deadLine_60 vf_X9_114 (dd_ (by omega) (by decide)) ⟨Nat.zero_le _, Nat.zero_le _⟩ rfl rfl (Nat.le_of_ble_eq_true rfl) kl_7 rfl io_196 ?_
      refine c_X9_isWrong hG4 ?_
      refine s_if_eq (tgt := 78) dX9_deadLine_63 (by decide) (by first | exact hG4.2 _ _ | exact hG.2 _ _ | exact b01_in _ | assumption | exact ⟨by omega, by omega⟩) (fun c6 => ?_) (fun c6 => ?_)
      · exact absurd (wr_ne W) (b01_0.mp c6)
      · have c6 := b01_n.mp c6
        refine s_aload_n dX9_deadLine_66 rfl ?_
        refine s_getr dX9_deadLine_67 fl_X9_43 kl_7 (by decide) rfl io_196 (z := 22) rfl (rf_7_22 hG4.1 io_196) (rk_7_22 io_196).1 ?_
        refine s_bipush dX9_deadLine_70 (by decide) ?_
        refine s_iload_n dX9_deadLine_72 rfl ?_
        refine s_iadd dX9_deadLine_73 ?_
        refine s_iaload dX9_deadLine_74 (rk_7_22 io_196) (by omega) (by omega) ?_
        refine s_goto (tgt := 79) dX9_deadLine_75 (by decide) ?_
        refine s_iastoreG dX9_deadLine_79 (rk_7_22 io_196) (by omega) (by omega) hG4 (by first | exact hG4.2 _ _ | exact hG.2 _ _ | exact b01_in _ | assumption | exact ⟨by omega, by omega⟩) (fun hG8 => ?_)
        have X9 := lx_w W hu
        refine s_return dX9_deadLine_80 rfl (k _ ⟨⟨hG8, (hs_ne _ (by omega)).trans X9.1.2.1, by rw [hs_ne _ (by omega)]; exact X9.1.2.2.1, X9.1.2.2.2.1, fun k p q => (hs_ne _ (by omega)).trans (X9.1.2.2.2.2 k p q)⟩, fun x k p q => (hs_ne _ (by omega)).trans (X9.2.1 x k p q), ?_⟩)
        rcases X9.2.2 with q | q
        · exact absurd (hu.symm.trans q.1) (by omega)
        · exact Or.inr ⟨q.1, (hs_ne _ (by omega)).trans q.2.1, q.2.2⟩
    · exact absurd (wr_ne W) (b01_0.mp c5)
set_option maxRecDepth 100000 in
set_option maxHeartbeats 4000000 in
theorem c_X9_thingLine  (hd : 9 ≤ d) (S : OK9 n T h a h) (e16 : h 196 16 = nb_ T n a) (P : LN_ y h) (cw : iw_ T (nb_ T n a) (wl__ T n a) (24 + 0)) (k : ∀ h1 : PH, LX_ n T h (pThing T n (nb_ T n a) (wn_ T n a) y) h1 → Q.1 none nN h1) : Cl_ yX9_thingLine MX9_thingLine d bc bs [(2, 196)] nN h Q := by
  refine s_enter pn_X9 rfl (Nat.le_of_ble_eq_true rfl) (L := [(2, _), (9, 0), (9, 0)]) rfl ?_
  have hG := S.1.1
  have ab := ok_0 S
  have nb0 := nb_0 S
  have yc := ln_c P
  have wle : wl__ T n a = wn_ T n a - nb_ T n a := rfl
  refine s_aload_n dX9_thingLine_0 rfl ?_
  refine s_geti dX9_thingLine_1 fl_X9_211 kl_7 (by decide) rfl io_196 (z := 19) rfl ?_
  rw [P.1.1]
  refine s_bipush dX9_thingLine_4 (by decide) ?_
  refine s_icmp_ne (tgt := 17) dX9_thingLine_6 (by decide) (by first | exact hG.2 _ _ | exact b01_in _ | assumption | exact ⟨by omega, by omega⟩) (by first | exact hG.2 _ _ | exact b01_in _ | assumption | exact ⟨by omega, by omega⟩) (fun c1 => ?_) (fun c1 => ?_)
  · refine s_aload_n dX9_thingLine_17 rfl ?_
    refine s_ldcS (j := 0) (z := 1000 + ((24 + 0 : Nat) : Int)) dX9_thingLine_18 (by decide) rfl rfl (by decide) ?_
    refine s_callV (d' := d - 1) (bc' := 0) (bs' := 0) (as := [_]) dX9_thingLine_20 vf_X9_221 (dd_ (by omega) (by decide)) ⟨Nat.zero_le _, Nat.zero_le _⟩ rfl rfl (Nat.le_of_ble_eq_true rfl) kl_7 rfl io_196 ?_
    refine c_X9_must (j := 24 + 0) (by decide) (by omega) S (fun cc1 h1 S1 e1 => ?_) (fun cc _ _ => absurd cw cc)
    have hG1 := S1.1.1
    have hG := hG1
    have S := S1
    have nb0 := nb_0 S
    refine s_aload_n dX9_thingLine_23 rfl ?_
    refine s_iconst dX9_thingLine_24 ?_
    refine s_callV (d' := d - 1) (bc' := 0) (bs' := 0) (as := [_]) dX9_thingLine_25 vf_X9_225 (dd_ (by omega) (by decide)) ⟨Nat.zero_le _, Nat.zero_le _⟩ rfl rfl (Nat.le_of_ble_eq_true rfl) kl_7 rfl io_196 ?_
    refine c0_X9_freshName (by omega) S P (fun ou2 t2 h2 S2 e2 => ?_) (fun cc3 h3 W3 => ?_)
    · have hG2 := S2.1.1
      have hG := hG2
      have S := S2
      have nb0 := nb_0 S
      have ou := ou2
      have fre := t2
      have nci := nc_in (T := T) (n := n) (a := wn_ T n a)
      refine s_istore_n dX9_thingLine_28 (by decide) rfl (L' := [_, _, _]) rfl ?_
      refine s_aload_n dX9_thingLine_29 rfl ?_
      refine s_iconst dX9_thingLine_30 ?_
      refine s_sipush dX9_thingLine_31 (by decide) ?_
      refine s_callV (d' := d - 1) (bc' := 0) (bs' := 0) (as := [_, _]) dX9_thingLine_34 vf_X9_229 (dd_ (by omega) (by decide)) ⟨Nat.zero_le _, Nat.zero_le _⟩ rfl rfl (Nat.le_of_ble_eq_true rfl) kl_7 rfl io_196 ?_
      refine c_X9_number (by omega) S ⟨by decide, by decide⟩ ⟨by decide, by decide⟩ (fun cc4 h4 S4 e4 m4 => ?_) (fun cc5 h5 v5 W5 hv5 => ?_)
      · have hG4 := S4.1.1
        have hG := hG4
        have S := S4
        have nb0 := nb_0 S
        have cn := cc4
        have e18 := m4
        have cnb := cc4.2
        refine s_istore_n dX9_thingLine_37 (by decide) rfl (L' := [_, _, _]) rfl ?_
        refine s_aload_n dX9_thingLine_38 rfl ?_
        refine s_callV (d' := d - 1) (bc' := 0) (bs' := 0) (as := []) dX9_thingLine_39 vf_X9_114 (dd_ (by omega) (by decide)) ⟨Nat.zero_le _, Nat.zero_le _⟩ rfl rfl (Nat.le_of_ble_eq_true rfl) kl_7 rfl io_196 ?_
        refine c_X9_isWrong hG4 ?_
        refine s_if_eq (tgt := 46) dX9_thingLine_42 (by decide) (by first | exact hG4.2 _ _ | exact hG.2 _ _ | exact b01_in _ | assumption | exact ⟨by omega, by omega⟩) (fun c2 => ?_) (fun c2 => ?_)
        · have c2 := b01_0.mp c2
          refine s_aload_n dX9_thingLine_46 rfl ?_
          refine s_getr dX9_thingLine_47 fl_X9_46 kl_7 (by decide) rfl io_196 (z := 23) rfl (rf_7_23 hG4.1 io_196) (rk_7_23 io_196).1 ?_
          refine s_aload_n dX9_thingLine_50 rfl ?_
          refine s_geti dX9_thingLine_51 fl_X9_211 kl_7 (by decide) rfl io_196 (z := 19) rfl ?_
          have P9 := ln_aw P S.2.1
          rw [P9.1.1]
          refine s_iload_n dX9_thingLine_54 rfl ?_
          refine s_iastoreG dX9_thingLine_55 (rk_7_23 io_196) (by omega) (by omega) hG4 (by first | exact hG4.2 _ _ | exact hG.2 _ _ | exact b01_in _ | assumption | exact ⟨by omega, by omega⟩) (fun hG6 => ?_)
          refine s_aload_n dX9_thingLine_56 rfl ?_
          refine s_getr dX9_thingLine_57 fl_X9_43 kl_7 (by decide) rfl io_196 (z := 22) rfl (rf_7_22 hG6.1 io_196) (rk_7_22 io_196).1 ?_
          refine s_iconst dX9_thingLine_60 ?_
          refine s_iconst dX9_thingLine_61 ?_
          refine s_aload_n dX9_thingLine_62 rfl ?_
          refine s_geti dX9_thingLine_63 fl_X9_211 kl_7 (by decide) rfl io_196 (z := 19) rfl ?_
          rw [hs_ne _ (by omega), P9.1.1]
          refine s_imul dX9_thingLine_66 ?_
          refine s_iadd dX9_thingLine_67 ?_
          refine s_iconst dX9_thingLine_68 ?_
          refine s_iadd dX9_thingLine_69 ?_
          refine s_iload_n dX9_thingLine_70 rfl ?_
          refine s_iastoreG dX9_thingLine_71 (rk_7_22 io_196) (by omega) (by omega) hG6 (by first | exact hG6.2 _ _ | exact hG.2 _ _ | exact b01_in _ | assumption | exact ⟨by omega, by omega⟩) (fun hG7 => ?_)
          refine s_aload_n dX9_thingLine_72 rfl ?_
          refine s_dup dX9_thingLine_73 rfl ?_
          refine s_geti dX9_thingLine_74 fl_X9_211 kl_7 (by decide) rfl io_196 (z := 19) rfl ?_
          rw [hs_ne _ (by omega), hs_ne _ (by omega), P9.1.1]
          refine s_iconst dX9_thingLine_77 ?_
          refine s_iadd dX9_thingLine_78 ?_
          refine s_putiG 19 dX9_thingLine_79 fl_X9_211 kl_7 (by decide) rfl rfl io_196 (z := 19) rfl (by decide +kernel) hG7 (by first | exact hG7.2 _ _ | exact hG.2 _ _ | exact b01_in _ | assumption | exact ⟨by omega, by omega⟩) (fun hG8 => ?_)
          have cn2 := cn.2
          refine s_return dX9_thingLine_82 rfl (k _ (lx_o (b := 0) S hG8 (fun x k p q => by rw [hs_ne _ (by omega), hs_ne _ (by omega), hs_ne _ (by omega)]) (by unfold pThing; rw [iC_f (fun q => q (by omega)), iC_f (fun q => q ⟨ou, fre⟩), iC_f (fun q => q cn)]) (ln_thing P9 (by omega) ou (by omega) (by omega) (fun x k p q r => by rw [hs_ne _ (by omega), hs_ne _ (by omega), hs_ne _ (by omega)]) (by rw [hs_ne _ (by omega), hs_ne _ (by omega), hs_eq]) (by rw [hs_ne _ (by omega), hs_eq]) (hs_eq _ _ _ _))))
        · exact absurd S.2.2.1 (b01_n.mp c2)
      · have hG5 := W5.1.1
        have hG := hG5
        have W := W5
        have cc := cc5
        have hv59 := hv5
        have hu : (pThing T n (nb_ T n a) (wn_ T n a) y).1 = nb_ T n (wn_ T n (wn_ T n a)) := by unfold pThing; rw [iC_f (fun q => q (by omega)), iC_f (fun q => q ⟨ou, fre⟩), iC_t cc]
        refine s_istore_n dX9_thingLine_37 (by decide) rfl (L' := [_, _, _]) rfl ?_
        refine s_aload_n dX9_thingLine_38 rfl ?_
        refine s_callV (d' := d - 1) (bc' := 0) (bs' := 0) (as := []) dX9_thingLine_39 vf_X9_114 (dd_ (by omega) (by decide)) ⟨Nat.zero_le _, Nat.zero_le _⟩ rfl rfl (Nat.le_of_ble_eq_true rfl) kl_7 rfl io_196 ?_
        refine c_X9_isWrong hG5 ?_
        refine s_if_eq (tgt := 46) dX9_thingLine_42 (by decide) (by first | exact hG5.2 _ _ | exact hG.2 _ _ | exact b01_in _ | assumption | exact ⟨by omega, by omega⟩) (fun c3 => ?_) (fun c3 => ?_)
        · exact absurd (wr_ne W) (b01_0.mp c3)
        · have c3 := b01_n.mp c3
          exact s_return dX9_thingLine_45 rfl (k _ (lx_w W hu))
    · have hG3 := W3.1.1
      have hG := hG3
      have W := W3
      have cc := cc3
      have hu : (pThing T n (nb_ T n a) (wn_ T n a) y).1 = nb_ T n (wn_ T n a) := by unfold pThing; rw [iC_f (fun q => q (by omega)), iC_t cc]
      refine s_istore_n dX9_thingLine_28 (by decide) rfl (L' := [_, _, _]) rfl ?_
      refine s_aload_n dX9_thingLine_29 rfl ?_
      refine s_iconst dX9_thingLine_30 ?_
      refine s_sipush dX9_thingLine_31 (by decide) ?_
      refine s_callV (d' := d - 1) (bc' := 0) (bs' := 0) (as := [_, _]) dX9_thingLine_34 vf_X9_229 (dd_ (by omega) (by decide)) ⟨Nat.zero_le _, Nat.zero_le _⟩ rfl rfl (Nat.le_of_ble_eq_true rfl) kl_7 rfl io_196 ?_
      refine kw_X9_number (by omega) W ?_
      refine s_istore_n dX9_thingLine_37 (by decide) rfl (L' := [_, _, _]) rfl ?_
      refine s_aload_n dX9_thingLine_38 rfl ?_
      refine s_callV (d' := d - 1) (bc' := 0) (bs' := 0) (as := []) dX9_thingLine_39 vf_X9_114 (dd_ (by omega) (by decide)) ⟨Nat.zero_le _, Nat.zero_le _⟩ rfl rfl (Nat.le_of_ble_eq_true rfl) kl_7 rfl io_196 ?_
      refine c_X9_isWrong hG3 ?_
      refine s_if_eq (tgt := 46) dX9_thingLine_42 (by decide) (by first | exact hG3.2 _ _ | exact hG.2 _ _ | exact b01_in _ | assumption | exact ⟨by omega, by omega⟩) (fun c4 => ?_) (fun c4 => ?_)
      · exact absurd (wr_ne W) (b01_0.mp c4)
      · have c4 := b01_n.mp c4
        exact s_return dX9_thingLine_45 rfl (k _ (lx_w W hu))
  · refine s_aload_n dX9_thingLine_9 rfl ?_
    refine s_aload_n dX9_thingLine_10 rfl ?_
    refine s_geti dX9_thingLine_11 fl_X9_104 kl_7 (by decide) rfl io_196 (z := 16) rfl ?_
    rw [e16]
    refine s_callV (d' := d - 1) (bc' := 0) (bs' := 0) (as := [_]) dX9_thingLine_14 vf_X9_137 (dd_ (by omega) (by decide)) ⟨Nat.zero_le _, Nat.zero_le _⟩ rfl rfl (Nat.le_of_ble_eq_true rfl) kl_7 rfl io_196 ?_
    refine c_X9_wrong hG ⟨by omega, by omega⟩ (fun h9 g9 f9 w9 => ?_)
    have hG9 := g9
    have hG := hG9
    rw [if_pos S.2.2.1] at w9
    have W := wr_of S g9 (fun x y c => f9 x y (by omega)) (f9 _ _ (by omega)) w9 (by omega) (by omega)
    have hu : (pThing T n (nb_ T n a) (wn_ T n a) y).1 = nb_ T n a := by unfold pThing; rw [iC_t (by omega)]
    refine s_aload_n dX9_thingLine_17 rfl ?_
    refine s_ldcS (j := 0) (z := 1000 + ((24 + 0 : Nat) : Int)) dX9_thingLine_18 (by decide) rfl rfl (by decide) ?_
    refine s_callV (d' := d - 1) (bc' := 0) (bs' := 0) (as := [_]) dX9_thingLine_20 vf_X9_221 (dd_ (by omega) (by decide)) ⟨Nat.zero_le _, Nat.zero_le _⟩ rfl rfl (Nat.le_of_ble_eq_true rfl) kl_7 rfl io_196 ?_
    refine kw_X9_must (by omega) W (fun hhG10 WhG10 => ?_)
    have hG10 := WhG10.1.1
    have hG := hG10
    have W := WhG10
    refine s_aload_n dX9_thingLine_23 rfl ?_
    refine s_iconst dX9_thingLine_24 ?_
    refine s_callV (d' := d - 1) (bc' := 0) (bs' := 0) (as := [_]) dX9_thingLine_25 vf_X9_225 (dd_ (by omega) (by decide)) ⟨Nat.zero_le _, Nat.zero_le _⟩ rfl rfl (Nat.le_of_ble_eq_true rfl) kl_7 rfl io_196 ?_
    refine kw0_X9_freshName (by omega) W P (fun hhG11 WhG11 => ?_)
    have hG11 := WhG11.1.1
    have hG := hG11
    have W := WhG11
    refine s_istore_n dX9_thingLine_28 (by decide) rfl (L' := [_, _, _]) rfl ?_
    refine s_aload_n dX9_thingLine_29 rfl ?_
    refine s_iconst dX9_thingLine_30 ?_
    refine s_sipush dX9_thingLine_31 (by decide) ?_
    refine s_callV (d' := d - 1) (bc' := 0) (bs' := 0) (as := [_, _]) dX9_thingLine_34 vf_X9_229 (dd_ (by omega) (by decide)) ⟨Nat.zero_le _, Nat.zero_le _⟩ rfl rfl (Nat.le_of_ble_eq_true rfl) kl_7 rfl io_196 ?_
    refine kw_X9_number (by omega) W ?_
    refine s_istore_n dX9_thingLine_37 (by decide) rfl (L' := [_, _, _]) rfl ?_
    refine s_aload_n dX9_thingLine_38 rfl ?_
    refine s_callV (d' := d - 1) (bc' := 0) (bs' := 0) (as := []) dX9_thingLine_39 vf_X9_114 (dd_ (by omega) (by decide)) ⟨Nat.zero_le _, Nat.zero_le _⟩ rfl rfl (Nat.le_of_ble_eq_true rfl) kl_7 rfl io_196 ?_
    refine c_X9_isWrong hG11 ?_
    refine s_if_eq (tgt := 46) dX9_thingLine_42 (by decide) (by first | exact hG11.2 _ _ | exact hG.2 _ _ | exact b01_in _ | assumption | exact ⟨by omega, by omega⟩) (fun c5 => ?_) (fun c5 => ?_)
    · exact absurd (wr_ne W) (b01_0.mp c5)
    · have c5 := b01_n.mp c5
      exact s_return dX9_thingLine_45 rfl (k _ (lx_w W hu))
end X9T
