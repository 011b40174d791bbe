/-! the reference reads: a person -/
theorem ln_person {y h h1 : PH} {T : Int → Int} {n a p q c : Int} (P : LN_ y h) (ep : p = y 0 1) (t8 : p < 12) (u : okU T n a) (q0 : -1 ≤ q) (q1 : q < p) (hc : c = 0 ∨ c = 1) (cq : ¬ c = 0 → q = -1) (f : ∀ x k : Int, ¬ ((x = 196 + 12 ∨ x = 196 + 13 ∨ x = 196 + 14) ∧ k = p) → ¬ (x = 196 ∧ (16 ≤ k ∧ k ≤ 18 ∨ k = 20)) → h1 x k = h x k) (e1 : h1 (196 + 12) p = nc_ T n a) (e2 : h1 (196 + 13) p = q) (e4 : h1 (196 + 14) p = c) (e3 : h1 196 20 = p + 1) : LN_ (ypa (ynp y T (nb_ T n a) (wl__ T n a)) (y 0 1) q c) h1 := by
  subst ep
  obtain ⟨⟨a1, a2, a3⟩, a4, a5, a6, a7, a8, ⟨b1, b2, b3, b4, b5, b6⟩, c1, c2⟩ := P
  have hT := b2.1
  have hP := b2.2.1
  have hN := b2.2.2
  generalize eY : ypa (ynp y T (nb_ T n a) (wl__ T n a)) (y 0 1) q c = Y
  have E0 : Y 0 = fu_ (y 0) 1 (y 0 1 + 1) := by rw [← eY, ypa_ne (by omega) (by omega), ynp_0]
  have E11 : Y 11 = fu_ (y 11) (y 0 1) (wl__ T n a) := by rw [← eY, ypa_ne (by omega) (by omega), ynp_11]
  have En : Y (30 + y 0 1) = fun k => T (nb_ T n a + k) := by rw [← eY, ypa_ne (by omega) (by omega), ynp_n hP.1]
  have E2 : Y 2 = fu_ (y 2) (y 0 1) q := by rw [← eY, ypa_2, ynp_ne (by omega) (by omega) (by omega)]
  have E3 : Y 3 = fu_ (y 3) (y 0 1) c := by rw [← eY, ypa_3, ynp_ne (by omega) (by omega) (by omega)]
  have E : ∀ x : Int, ¬ x = 0 → ¬ x = 2 → ¬ x = 3 → ¬ x = 11 → ¬ x = 30 + y 0 1 → Y x = y x := fun x p q r s t => by rw [← eY, ypa_ne q r, ynp_ne p s t]
  have E00 : Y 0 0 = y 0 0 := by rw [E0, fu_ne (by omega)]
  have E01 : Y 0 1 = y 0 1 + 1 := by rw [E0, fu_eq]
  have E02 : Y 0 2 = y 0 2 := by rw [E0, fu_ne (by omega)]
  have ET : ∀ t : Int, ¬ t = y 0 1 → 0 ≤ t → t < 12 → Y (30 + t) = y (30 + t) ∧ Y 11 t = y 11 t ∧ Y 2 t = y 2 t ∧ Y 3 t = y 3 t := fun t p q r => ⟨E _ (by omega) (by omega) (by omega) (by omega) (by omega), by rw [E11, fu_ne p], by rw [E2, fu_ne p], by rw [E3, fu_ne p]⟩
  have EL : Y 11 (y 0 1) = wl__ T n a := by rw [E11, fu_eq]
  have EQ : Y 2 (y 0 1) = q ∧ Y 3 (y 0 1) = c := ⟨by rw [E2, fu_eq], by rw [E3, fu_eq]⟩
  have ul := u.1
  have ul2 := u.2.1
  have nw : nk_ (fun k => T (nb_ T n a + k)) (wl__ T n a) := ⟨⟨ul, ul2⟩, we_lq, by rw [← wi_congr (T := T) (s := nb_ T n a) (fun k _ _ => rfl)]; exact u.2.2⟩
  refine ⟨⟨by rw [f _ _ (by omega) (by omega), E00]; exact a1, by rw [e3, E01], by rw [f _ _ (by omega) (by omega), E02]; exact a3⟩, fun k p q => ?_, fun t p q => ?_, fun t p q => ?_, fun p a b => ?_, fun g v p q r s => ?_, ⟨by rw [zf_z, E 1 (by omega) (by omega) (by omega) (by omega) (by omega)]; exact zf_z.mp b1, ?_, ?_, ?_, ?_, ?_⟩, fun t p q => ?_, fun t p q => ?_⟩
  · rw [f _ _ (by omega) (by omega), E 1 (by omega) (by omega) (by omega) (by omega) (by omega)]
    exact a4 k p q
  · rw [E00] at q
    rw [f _ _ (by omega) (by omega), E (20 + t) (by omega) (by omega) (by omega) (by omega) (by omega), E 10 (by omega) (by omega) (by omega) (by omega) (by omega)]
    exact a5 t p q
  · rw [E01] at q
    by_cases c : t = y 0 1
    · rw [c, e1, En, EL]
      unfold nc_
      rw [iC_t u]
    · rw [f _ _ (by omega) (by omega), (ET t c p (by omega)).1, (ET t c p (by omega)).2.1]
      exact a6 t p (by omega)
  · rw [E01] at b
    by_cases c : p = y 0 1
    · rw [c, e2, e4, EQ.1, EQ.2]
      exact ⟨rfl, rfl⟩
    · rw [f _ _ (by omega) (by omega), f _ _ (by omega) (by omega), (ET p c a (by omega)).2.2.1, (ET p c a (by omega)).2.2.2]
      exact a7 p a (by omega)
  · rw [E02] at q
    rw [f _ _ (by omega) (by omega), E (5 + v) (by omega) (by omega) (by omega) (by omega) (by omega)]
    exact a8 g v p q r s
  · unfold YC_
    rw [E00, E01, E02]
    omega
  · rw [E01]
    omega
  · unfold YP_
    rw [E01]
    intro p p0 p1
    by_cases c : p = y 0 1
    · rw [c, EQ.1, EQ.2]
      exact ⟨⟨q0, q1⟩, hc, cq⟩
    · rw [(ET p c p0 (by omega)).2.2.1, (ET p c p0 (by omega)).2.2.2]
      exact b4 p p0 (by omega)
  · unfold YG_
    rw [E00, E01, E02, E 5 (by omega) (by omega) (by omega) (by omega) (by omega), E 6 (by omega) (by omega) (by omega) (by omega) (by omega), E 7 (by omega) (by omega) (by omega) (by omega) (by omega), E 8 (by omega) (by omega) (by omega) (by omega) (by omega), E 9 (by omega) (by omega) (by omega) (by omega) (by omega)]
    intro g g0 g1
    have q := b5 g g0 g1
    refine ⟨q.1, ?_, q.2.2⟩
    have q2 := q.2.1
    omega
  · refine ⟨fun t p q => ?_, fun t p q => ?_⟩
    · rw [E00] at q
      rw [E 10 (by omega) (by omega) (by omega) (by omega) (by omega), E (20 + t) (by omega) (by omega) (by omega) (by omega) (by omega)]
      exact b6.1 t p q
    · rw [E01] at q
      by_cases c : t = y 0 1
      · rw [c, En, EL]
        exact ⟨⟨ul, ul2⟩, fun j j0 j1 => we_lq j j0 (by omega)⟩
      · rw [(ET t c p (by omega)).1, (ET t c p (by omega)).2.1]
        exact b6.2 t p (by omega)
  · rw [E00] at q
    rw [E 10 (by omega) (by omega) (by omega) (by omega) (by omega), E (20 + t) (by omega) (by omega) (by omega) (by omega) (by omega)]
    exact c1 t p q
  · rw [E01] at q
    by_cases c : t = y 0 1
    · rw [c, En, EL]
      exact nw
    · rw [(ET t c p (by omega)).1, (ET t c p (by omega)).2.1]
      exact c2 t p (by omega)
section X9U
variable {d bc bs : Nat} {Q : PQ} {h h0 y : PH} {n a f : Int} {T : Int → Int}
set_option maxRecDepth 100000 in
set_option maxHeartbeats 4000000 in
theorem c0_X9_personLine  (hd : 9 ≤ d) (S : OK9 n T h a h) (e16 : h 196 16 = nb_ T n a) (P : LN_ y h) (cw : iw_ T (nb_ T n a) (wl__ T n a) (24 + 3)) (k : ∀ h1 : PH, LX_ n T h (pPerson 1 T n (nb_ T n a) (wn_ T n a) y) h1 → Q.1 none nN h1) : Cl_ yX9_personLine MX9_personLine d bc bs [(2, 196), (0, 0)] nN h Q := by
  refine s_enter pn_X9 rfl (Nat.le_of_ble_eq_true rfl) (L := [(2, _), (0, _), (9, 0), (9, 0)]) rfl ?_
  have hG := S.1.1
  have ab := ok_0 S
  have nb0 := nb_0 S
  have yc := ln_c P
  have wle : wl__ T n a = wn_ T n a - nb_ T n a := rfl
  refine s_aload_n dX9_personLine_0 rfl ?_
  refine s_geti dX9_personLine_1 fl_X9_204 kl_7 (by decide) rfl io_196 (z := 20) rfl ?_
  rw [P.1.2.1]
  refine s_bipush dX9_personLine_4 (by decide) ?_
  refine s_icmp_ne (tgt := 17) dX9_personLine_6 (by decide) (by first | exact hG.2 _ _ | exact b01_in _ | assumption | exact ⟨by omega, by omega⟩) (by first | exact hG.2 _ _ | exact b01_in _ | assumption | exact ⟨by omega, by omega⟩) (fun c1 => ?_) (fun c1 => ?_)
  · refine s_aload_n dX9_personLine_17 rfl ?_
    refine s_iload_n dX9_personLine_18 rfl ?_
    refine s_if_ne (tgt := 27) dX9_personLine_19 (by decide) (by first | exact hG.2 _ _ | exact b01_in _ | assumption | exact ⟨by omega, by omega⟩) (fun c2 => ?_) (fun c2 => ?_)
    · exact absurd rfl c2
    · refine s_ldcS (j := 3) (z := 1000 + ((24 + 3 : Nat) : Int)) dX9_personLine_22 (by decide) rfl rfl (by decide) ?_
      refine s_goto (tgt := 39) dX9_personLine_24 (by decide) ?_
      refine s_callV (d' := d - 1) (bc' := 0) (bs' := 0) (as := [_]) dX9_personLine_39 vf_X9_221 (dd_ (by omega) (by decide)) ⟨Nat.zero_le _, Nat.zero_le _⟩ rfl rfl (Nat.le_of_ble_eq_true rfl) kl_7 rfl io_196 ?_
      refine c_X9_must (j := 24 + 3) (by decide) (by omega) S (fun cc1 h1 S1 e1 => ?_) (fun cc _ _ => absurd cw cc)
      have hG1 := S1.1.1
      have hG := hG1
      have S := S1
      have nb0 := nb_0 S
      refine s_aload_n dX9_personLine_42 rfl ?_
      refine s_iconst dX9_personLine_43 ?_
      refine s_callV (d' := d - 1) (bc' := 0) (bs' := 0) (as := [_]) dX9_personLine_44 vf_X9_225 (dd_ (by omega) (by decide)) ⟨Nat.zero_le _, Nat.zero_le _⟩ rfl rfl (Nat.le_of_ble_eq_true rfl) kl_7 rfl io_196 ?_
      refine c1_X9_freshName (by omega) S P (fun ou2 t2 h2 S2 e2 => ?_) (fun cc3 h3 W3 => ?_)
      · have hG2 := S2.1.1
        have hG := hG2
        have S := S2
        have nb0 := nb_0 S
        have ou := ou2
        have fre := t2
        have nci := nc_in (T := T) (n := n) (a := wn_ T n a)
        refine s_istore_n dX9_personLine_47 (by decide) rfl (L' := [_, _, _, _]) rfl ?_
        refine s_iconst dX9_personLine_48 ?_
        refine s_istore_n dX9_personLine_49 (by decide) rfl (L' := [_, _, _, _]) rfl ?_
        refine s_iload_n dX9_personLine_50 rfl ?_
        refine s_iconst dX9_personLine_51 ?_
        refine s_icmp_ne (tgt := 66) dX9_personLine_52 (by decide) (by first | exact hG2.2 _ _ | exact hG.2 _ _ | exact b01_in _ | assumption | exact ⟨by omega, by omega⟩) (by first | exact hG2.2 _ _ | exact hG.2 _ _ | exact b01_in _ | assumption | exact ⟨by omega, by omega⟩) (fun c3 => ?_) (fun c3 => ?_)
        · refine s_aload_n dX9_personLine_66 rfl ?_
          refine s_callV (d' := d - 1) (bc' := 0) (bs' := 0) (as := []) dX9_personLine_67 vf_X9_114 (dd_ (by omega) (by decide)) ⟨Nat.zero_le _, Nat.zero_le _⟩ rfl rfl (Nat.le_of_ble_eq_true rfl) kl_7 rfl io_196 ?_
          refine c_X9_isWrong hG2 ?_
          refine s_if_eq (tgt := 74) dX9_personLine_70 (by decide) (by first | exact hG2.2 _ _ | exact hG.2 _ _ | exact b01_in _ | assumption | exact ⟨by omega, by omega⟩) (fun c4 => ?_) (fun c4 => ?_)
          · have c4 := b01_0.mp c4
            refine s_aload_n dX9_personLine_74 rfl ?_
            refine s_getr dX9_personLine_75 fl_X9_49 kl_7 (by decide) rfl io_196 (z := 24) rfl (rf_7_24 hG2.1 io_196) (rk_7_24 io_196).1 ?_
            refine s_aload_n dX9_personLine_78 rfl ?_
            refine s_geti dX9_personLine_79 fl_X9_204 kl_7 (by decide) rfl io_196 (z := 20) rfl ?_
            have P9 := ln_aw P S.2.1
            rw [P9.1.2.1]
            refine s_iload_n dX9_personLine_82 rfl ?_
            refine s_iastoreG dX9_personLine_83 (rk_7_24 io_196) (by omega) (by omega) hG2 (by first | exact hG2.2 _ _ | exact hG.2 _ _ | exact b01_in _ | assumption | exact ⟨by omega, by omega⟩) (fun hG4 => ?_)
            refine s_aload_n dX9_personLine_84 rfl ?_
            refine s_getr dX9_personLine_85 fl_X9_52 kl_7 (by decide) rfl io_196 (z := 25) rfl (rf_7_25 hG4.1 io_196) (rk_7_25 io_196).1 ?_
            refine s_aload_n dX9_personLine_88 rfl ?_
            refine s_geti dX9_personLine_89 fl_X9_204 kl_7 (by decide) rfl io_196 (z := 20) rfl ?_
            rw [hs_ne _ (by omega), P9.1.2.1]
            refine s_iload_n dX9_personLine_92 rfl ?_
            refine s_iastoreG dX9_personLine_93 (rk_7_25 io_196) (by omega) (by omega) hG4 (by first | exact hG4.2 _ _ | exact hG.2 _ _ | exact b01_in _ | assumption | exact ⟨by omega, by omega⟩) (fun hG5 => ?_)
            refine s_aload_n dX9_personLine_94 rfl ?_
            refine s_getr dX9_personLine_95 fl_X9_55 kl_7 (by decide) rfl io_196 (z := 26) rfl (rf_7_26 hG5.1 io_196) (rk_7_26 io_196).1 ?_
            refine s_aload_n dX9_personLine_98 rfl ?_
            refine s_geti dX9_personLine_99 fl_X9_204 kl_7 (by decide) rfl io_196 (z := 20) rfl ?_
            rw [hs_ne _ (by omega), hs_ne _ (by omega), P9.1.2.1]
            refine s_iload_n dX9_personLine_102 rfl ?_
            refine s_if_ne (tgt := 110) dX9_personLine_103 (by decide) (by first | exact hG5.2 _ _ | exact hG.2 _ _ | exact b01_in _ | assumption | exact ⟨by omega, by omega⟩) (fun c5 => ?_) (fun c5 => ?_)
            · exact absurd rfl c5
            · refine s_iconst dX9_personLine_106 ?_
              refine s_goto (tgt := 111) dX9_personLine_107 (by decide) ?_
              refine s_bastore2G dX9_personLine_111 (rk_7_26 io_196) (by omega) (by omega) hG5 (by first | exact Or.inl rfl | exact Or.inr rfl | assumption | omega) (fun hG6 => ?_)
              refine s_aload_n dX9_personLine_112 rfl ?_
              refine s_dup dX9_personLine_113 rfl ?_
              refine s_geti dX9_personLine_114 fl_X9_204 kl_7 (by decide) rfl io_196 (z := 20) rfl ?_
              rw [hs_ne _ (by omega), hs_ne _ (by omega), hs_ne _ (by omega), P9.1.2.1]
              refine s_iconst dX9_personLine_117 ?_
              refine s_iadd dX9_personLine_118 ?_
              refine s_putiG 20 dX9_personLine_119 fl_X9_204 kl_7 (by decide) rfl rfl io_196 (z := 20) rfl (by decide +kernel) hG6 (by first | exact hG6.2 _ _ | exact hG.2 _ _ | exact b01_in _ | assumption | exact ⟨by omega, by omega⟩) (fun hG7 => ?_)
              refine s_return dX9_personLine_122 rfl (k _ (lx_o (b := 0) S hG7 (fun x k p q => by rw [hs_ne _ (by omega), hs_ne _ (by omega), hs_ne _ (by omega), hs_ne _ (by omega)]) (by unfold pPerson; rw [iC_f (fun q => q (by omega)), iC_f (fun q => q ⟨ou, fre⟩)]) (ln_person (p := y 0 1) P9 rfl (by omega) ou (by omega) (by omega) (by omega) (by omega) (fun x k p q => by rw [hs_ne _ (by omega), hs_ne _ (by omega), hs_ne _ (by omega), hs_ne _ (by omega)]) (by rw [hs_ne _ (by omega), hs_ne _ (by omega), hs_ne _ (by omega), hs_eq]) (by rw [hs_ne _ (by omega), hs_ne _ (by omega), hs_eq]) (by rw [hs_ne _ (by omega), hs_eq]) (hs_eq _ _ _ _))))
          · exact absurd S.2.2.1 (b01_n.mp c4)
        · exact absurd c3 (by decide)
      · have hG3 := W3.1.1
        have hG := hG3
        have W := W3
        have cc := cc3
        have hu : (pPerson 1 T n (nb_ T n a) (wn_ T n a) y).1 = nb_ T n (wn_ T n a) := by unfold pPerson; rw [iC_f (fun q => q (by omega)), iC_t cc]
        refine s_istore_n dX9_personLine_47 (by decide) rfl (L' := [_, _, _, _]) rfl ?_
        refine s_iconst dX9_personLine_48 ?_
        refine s_istore_n dX9_personLine_49 (by decide) rfl (L' := [_, _, _, _]) rfl ?_
        refine s_iload_n dX9_personLine_50 rfl ?_
        refine s_iconst dX9_personLine_51 ?_
        refine s_icmp_ne (tgt := 66) dX9_personLine_52 (by decide) (by first | exact hG3.2 _ _ | exact hG.2 _ _ | exact b01_in _ | assumption | exact ⟨by omega, by omega⟩) (by first | exact hG3.2 _ _ | exact hG.2 _ _ | exact b01_in _ | assumption | exact ⟨by omega, by omega⟩) (fun c6 => ?_) (fun c6 => ?_)
        · refine s_aload_n dX9_personLine_66 rfl ?_
          refine s_callV (d' := d - 1) (bc' := 0) (bs' := 0) (as := []) dX9_personLine_67 vf_X9_114 (dd_ (by omega) (by decide)) ⟨Nat.zero_le _, Nat.zero_le _⟩ rfl rfl (Nat.le_of_ble_eq_true rfl) kl_7 rfl io_196 ?_
          refine c_X9_isWrong hG3 ?_
          refine s_if_eq (tgt := 74) dX9_personLine_70 (by decide) (by first | exact hG3.2 _ _ | exact hG.2 _ _ | exact b01_in _ | assumption | exact ⟨by omega, by omega⟩) (fun c7 => ?_) (fun c7 => ?_)
          · exact absurd (wr_ne W) (b01_0.mp c7)
          · have c7 := b01_n.mp c7
            exact s_return dX9_personLine_73 rfl (k _ (lx_w W hu))
        · exact absurd c6 (by decide)
  · refine s_aload_n dX9_personLine_9 rfl ?_
    refine s_aload_n dX9_personLine_10 rfl ?_
    refine s_geti dX9_personLine_11 fl_X9_104 kl_7 (by decide) rfl io_196 (z := 16) rfl ?_
    rw [e16]
    refine s_callV (d' := d - 1) (bc' := 0) (bs' := 0) (as := [_]) dX9_personLine_14 vf_X9_137 (dd_ (by omega) (by decide)) ⟨Nat.zero_le _, Nat.zero_le _⟩ rfl rfl (Nat.le_of_ble_eq_true rfl) kl_7 rfl io_196 ?_
    refine c_X9_wrong hG ⟨by omega, by omega⟩ (fun h8 g8 f8 w8 => ?_)
    have hG8 := g8
    have hG := hG8
    rw [if_pos S.2.2.1] at w8
    have W := wr_of S g8 (fun x y c => f8 x y (by omega)) (f8 _ _ (by omega)) w8 (by omega) (by omega)
    have hu : (pPerson 1 T n (nb_ T n a) (wn_ T n a) y).1 = nb_ T n a := by unfold pPerson; rw [iC_t (by omega)]
    refine s_aload_n dX9_personLine_17 rfl ?_
    refine s_iload_n dX9_personLine_18 rfl ?_
    refine s_if_ne (tgt := 27) dX9_personLine_19 (by decide) (by first | exact hG8.2 _ _ | exact hG.2 _ _ | exact b01_in _ | assumption | exact ⟨by omega, by omega⟩) (fun c8 => ?_) (fun c8 => ?_)
    · exact absurd rfl c8
    · refine s_ldcS (j := 3) (z := 1000 + ((24 + 3 : Nat) : Int)) dX9_personLine_22 (by decide) rfl rfl (by decide) ?_
      refine s_goto (tgt := 39) dX9_personLine_24 (by decide) ?_
      refine s_callV (d' := d - 1) (bc' := 0) (bs' := 0) (as := [_]) dX9_personLine_39 vf_X9_221 (dd_ (by omega) (by decide)) ⟨Nat.zero_le _, Nat.zero_le _⟩ rfl rfl (Nat.le_of_ble_eq_true rfl) kl_7 rfl io_196 ?_
      refine kw_X9_must (by omega) W (fun hhG9 WhG9 => ?_)
      have hG9 := WhG9.1.1
      have hG := hG9
      have W := WhG9
      refine s_aload_n dX9_personLine_42 rfl ?_
      refine s_iconst dX9_personLine_43 ?_
      refine s_callV (d' := d - 1) (bc' := 0) (bs' := 0) (as := [_]) dX9_personLine_44 vf_X9_225 (dd_ (by omega) (by decide)) ⟨Nat.zero_le _, Nat.zero_le _⟩ rfl rfl (Nat.le_of_ble_eq_true rfl) kl_7 rfl io_196 ?_
      refine kw1_X9_freshName (by omega) W P (fun hhG10 WhG10 => ?_)
      have hG10 := WhG10.1.1
      have hG := hG10
      have W := WhG10
      refine s_istore_n dX9_personLine_47 (by decide) rfl (L' := [_, _, _, _]) rfl ?_
      refine s_iconst dX9_personLine_48 ?_
      refine s_istore_n dX9_personLine_49 (by decide) rfl (L' := [_, _, _, _]) rfl ?_
      refine s_iload_n dX9_personLine_50 rfl ?_
      refine s_iconst dX9_personLine_51 ?_
      refine s_icmp_ne (tgt := 66) dX9_personLine_52 (by decide) (by first | exact hG10.2 _ _ | exact hG.2 _ _ | exact b01_in _ | assumption | exact ⟨by omega, by omega⟩) (by first | exact hG10.2 _ _ | exact hG.2 _ _ | exact b01_in _ | assumption | exact ⟨by omega, by omega⟩) (fun c9 => ?_) (fun c9 => ?_)
      · refine s_aload_n dX9_personLine_66 rfl ?_
        refine s_callV (d' := d - 1) (bc' := 0) (bs' := 0) (as := []) dX9_personLine_67 vf_X9_114 (dd_ (by omega) (by decide)) ⟨Nat.zero_le _, Nat.zero_le _⟩ rfl rfl (Nat.le_of_ble_eq_true rfl) kl_7 rfl io_196 ?_
        refine c_X9_isWrong hG10 ?_
        refine s_if_eq (tgt := 74) dX9_personLine_70 (by decide) (by first | exact hG10.2 _ _ | exact hG.2 _ _ | exact b01_in _ | assumption | exact ⟨by omega, by omega⟩) (fun c10 => ?_) (fun c10 => ?_)
        · exact absurd (wr_ne W) (b01_0.mp c10)
        · have c10 := b01_n.mp c10
          exact s_return dX9_personLine_73 rfl (k _ (lx_w W hu))
      · exact absurd c9 (by decide)
set_option maxRecDepth 100000 in
set_option maxHeartbeats 4000000 in
theorem c1_X9_personLine  (hd : 9 ≤ d) (S : OK9 n T h a h) (e16 : h 196 16 = nb_ T n a) (P : LN_ y h) (cw : iw_ T (nb_ T n a) (wl__ T n a) (24 + 4)) (k : ∀ h1 : PH, LX_ n T h (pPerson 0 T n (nb_ T n a) (wn_ T n a) y) h1 → Q.1 none nN h1) : Cl_ yX9_personLine MX9_personLine d bc bs [(2, 196), (0, 1)] nN h Q := by
  refine s_enter pn_X9 rfl (Nat.le_of_ble_eq_true rfl) (L := [(2, _), (0, _), (9, 0), (9, 0)]) rfl ?_
  have hG := S.1.1
  have ab := ok_0 S
  have nb0 := nb_0 S
  have yc := ln_c P
  have wle : wl__ T n a = wn_ T n a - nb_ T n a := rfl
  refine s_aload_n dX9_personLine_0 rfl ?_
  refine s_geti dX9_personLine_1 fl_X9_204 kl_7 (by decide) rfl io_196 (z := 20) rfl ?_
  rw [P.1.2.1]
  refine s_bipush dX9_personLine_4 (by decide) ?_
  refine s_icmp_ne (tgt := 17) dX9_personLine_6 (by decide) (by first | exact hG.2 _ _ | exact b01_in _ | assumption | exact ⟨by omega, by omega⟩) (by first | exact hG.2 _ _ | exact b01_in _ | assumption | exact ⟨by omega, by omega⟩) (fun c1 => ?_) (fun c1 => ?_)
  · refine s_aload_n dX9_personLine_17 rfl ?_
    refine s_iload_n dX9_personLine_18 rfl ?_
    refine s_if_ne (tgt := 27) dX9_personLine_19 (by decide) (by first | exact hG.2 _ _ | exact b01_in _ | assumption | exact ⟨by omega, by omega⟩) (fun c2 => ?_) (fun c2 => ?_)
    · refine s_iload_n dX9_personLine_27 rfl ?_
      refine s_iconst dX9_personLine_28 ?_
      refine s_icmp_ne (tgt := 37) dX9_personLine_29 (by decide) (by first | exact hG.2 _ _ | exact b01_in _ | assumption | exact ⟨by omega, by omega⟩) (by first | exact hG.2 _ _ | exact b01_in _ | assumption | exact ⟨by omega, by omega⟩) (fun c3 => ?_) (fun c3 => ?_)
      · exact absurd rfl c3
      · refine s_ldcS (j := 4) (z := 1000 + ((24 + 4 : Nat) : Int)) dX9_personLine_32 (by decide) rfl rfl (by decide) ?_
        refine s_goto (tgt := 39) dX9_personLine_34 (by decide) ?_
        refine s_callV (d' := d - 1) (bc' := 0) (bs' := 0) (as := [_]) dX9_personLine_39 vf_X9_221 (dd_ (by omega) (by decide)) ⟨Nat.zero_le _, Nat.zero_le _⟩ rfl rfl (Nat.le_of_ble_eq_true rfl) kl_7 rfl io_196 ?_
        refine c_X9_must (j := 24 + 4) (by decide) (by omega) S (fun cc1 h1 S1 e1 => ?_) (fun cc _ _ => absurd cw cc)
        have hG1 := S1.1.1
        have hG := hG1
        have S := S1
        have nb0 := nb_0 S
        refine s_aload_n dX9_personLine_42 rfl ?_
        refine s_iconst dX9_personLine_43 ?_
        refine s_callV (d' := d - 1) (bc' := 0) (bs' := 0) (as := [_]) dX9_personLine_44 vf_X9_225 (dd_ (by omega) (by decide)) ⟨Nat.zero_le _, Nat.zero_le _⟩ rfl rfl (Nat.le_of_ble_eq_true rfl) kl_7 rfl io_196 ?_
        refine c1_X9_freshName (by omega) S P (fun ou2 t2 h2 S2 e2 => ?_) (fun cc3 h3 W3 => ?_)
        · have hG2 := S2.1.1
          have hG := hG2
          have S := S2
          have nb0 := nb_0 S
          have ou := ou2
          have fre := t2
          have nci := nc_in (T := T) (n := n) (a := wn_ T n a)
          refine s_istore_n dX9_personLine_47 (by decide) rfl (L' := [_, _, _, _]) rfl ?_
          refine s_iconst dX9_personLine_48 ?_
          refine s_istore_n dX9_personLine_49 (by decide) rfl (L' := [_, _, _, _]) rfl ?_
          refine s_iload_n dX9_personLine_50 rfl ?_
          refine s_iconst dX9_personLine_51 ?_
          refine s_icmp_ne (tgt := 66) dX9_personLine_52 (by decide) (by first | exact hG2.2 _ _ | exact hG.2 _ _ | exact b01_in _ | assumption | exact ⟨by omega, by omega⟩) (by first | exact hG2.2 _ _ | exact hG.2 _ _ | exact b01_in _ | assumption | exact ⟨by omega, by omega⟩) (fun c4 => ?_) (fun c4 => ?_)
          · refine s_aload_n dX9_personLine_66 rfl ?_
            refine s_callV (d' := d - 1) (bc' := 0) (bs' := 0) (as := []) dX9_personLine_67 vf_X9_114 (dd_ (by omega) (by decide)) ⟨Nat.zero_le _, Nat.zero_le _⟩ rfl rfl (Nat.le_of_ble_eq_true rfl) kl_7 rfl io_196 ?_
            refine c_X9_isWrong hG2 ?_
            refine s_if_eq (tgt := 74) dX9_personLine_70 (by decide) (by first | exact hG2.2 _ _ | exact hG.2 _ _ | exact b01_in _ | assumption | exact ⟨by omega, by omega⟩) (fun c5 => ?_) (fun c5 => ?_)
            · have c5 := b01_0.mp c5
              refine s_aload_n dX9_personLine_74 rfl ?_
              refine s_getr dX9_personLine_75 fl_X9_49 kl_7 (by decide) rfl io_196 (z := 24) rfl (rf_7_24 hG2.1 io_196) (rk_7_24 io_196).1 ?_
              refine s_aload_n dX9_personLine_78 rfl ?_
              refine s_geti dX9_personLine_79 fl_X9_204 kl_7 (by decide) rfl io_196 (z := 20) rfl ?_
              have P9 := ln_aw P S.2.1
              rw [P9.1.2.1]
              refine s_iload_n dX9_personLine_82 rfl ?_
              refine s_iastoreG dX9_personLine_83 (rk_7_24 io_196) (by omega) (by omega) hG2 (by first | exact hG2.2 _ _ | exact hG.2 _ _ | exact b01_in _ | assumption | exact ⟨by omega, by omega⟩) (fun hG4 => ?_)
              refine s_aload_n dX9_personLine_84 rfl ?_
              refine s_getr dX9_personLine_85 fl_X9_52 kl_7 (by decide) rfl io_196 (z := 25) rfl (rf_7_25 hG4.1 io_196) (rk_7_25 io_196).1 ?_
              refine s_aload_n dX9_personLine_88 rfl ?_
              refine s_geti dX9_personLine_89 fl_X9_204 kl_7 (by decide) rfl io_196 (z := 20) rfl ?_
              rw [hs_ne _ (by omega), P9.1.2.1]
              refine s_iload_n dX9_personLine_92 rfl ?_
              refine s_iastoreG dX9_personLine_93 (rk_7_25 io_196) (by omega) (by omega) hG4 (by first | exact hG4.2 _ _ | exact hG.2 _ _ | exact b01_in _ | assumption | exact ⟨by omega, by omega⟩) (fun hG5 => ?_)
              refine s_aload_n dX9_personLine_94 rfl ?_
              refine s_getr dX9_personLine_95 fl_X9_55 kl_7 (by decide) rfl io_196 (z := 26) rfl (rf_7_26 hG5.1 io_196) (rk_7_26 io_196).1 ?_
              refine s_aload_n dX9_personLine_98 rfl ?_
              refine s_geti dX9_personLine_99 fl_X9_204 kl_7 (by decide) rfl io_196 (z := 20) rfl ?_
              rw [hs_ne _ (by omega), hs_ne _ (by omega), P9.1.2.1]
              refine s_iload_n dX9_personLine_102 rfl ?_
              refine s_if_ne (tgt := 110) dX9_personLine_103 (by decide) (by first | exact hG5.2 _ _ | exact hG.2 _ _ | exact b01_in _ | assumption | exact ⟨by omega, by omega⟩) (fun c6 => ?_) (fun c6 => ?_)
              · refine s_iconst dX9_personLine_110 ?_
                refine s_bastore2G dX9_personLine_111 (rk_7_26 io_196) (by omega) (by omega) hG5 (by first | exact Or.inl rfl | exact Or.inr rfl | assumption | omega) (fun hG6 => ?_)
                refine s_aload_n dX9_personLine_112 rfl ?_
                refine s_dup dX9_personLine_113 rfl ?_
                refine s_geti dX9_personLine_114 fl_X9_204 kl_7 (by decide) rfl io_196 (z := 20) rfl ?_
                rw [hs_ne _ (by omega), hs_ne _ (by omega), hs_ne _ (by omega), P9.1.2.1]
                refine s_iconst dX9_personLine_117 ?_
                refine s_iadd dX9_personLine_118 ?_
                refine s_putiG 20 dX9_personLine_119 fl_X9_204 kl_7 (by decide) rfl rfl io_196 (z := 20) rfl (by decide +kernel) hG6 (by first | exact hG6.2 _ _ | exact hG.2 _ _ | exact b01_in _ | assumption | exact ⟨by omega, by omega⟩) (fun hG7 => ?_)
                refine s_return dX9_personLine_122 rfl (k _ (lx_o (b := 0) S hG7 (fun x k p q => by rw [hs_ne _ (by omega), hs_ne _ (by omega), hs_ne _ (by omega), hs_ne _ (by omega)]) (by unfold pPerson; rw [iC_f (fun q => q (by omega)), iC_f (fun q => q ⟨ou, fre⟩)]) (ln_person (p := y 0 1) P9 rfl (by omega) ou (by omega) (by omega) (by omega) (by omega) (fun x k p q => by rw [hs_ne _ (by omega), hs_ne _ (by omega), hs_ne _ (by omega), hs_ne _ (by omega)]) (by rw [hs_ne _ (by omega), hs_ne _ (by omega), hs_ne _ (by omega), hs_eq]) (by rw [hs_ne _ (by omega), hs_ne _ (by omega), hs_eq]) (by rw [hs_ne _ (by omega), hs_eq]) (hs_eq _ _ _ _))))
              · exact absurd c6 (by decide)
            · exact absurd S.2.2.1 (b01_n.mp c5)
          · exact absurd c4 (by decide)
        · have hG3 := W3.1.1
          have hG := hG3
          have W := W3
          have cc := cc3
          have hu : (pPerson 0 T n (nb_ T n a) (wn_ T n a) y).1 = nb_ T n (wn_ T n a) := by unfold pPerson; rw [iC_f (fun q => q (by omega)), iC_t cc]
          refine s_istore_n dX9_personLine_47 (by decide) rfl (L' := [_, _, _, _]) rfl ?_
          refine s_iconst dX9_personLine_48 ?_
          refine s_istore_n dX9_personLine_49 (by decide) rfl (L' := [_, _, _, _]) rfl ?_
          refine s_iload_n dX9_personLine_50 rfl ?_
          refine s_iconst dX9_personLine_51 ?_
          refine s_icmp_ne (tgt := 66) dX9_personLine_52 (by decide) (by first | exact hG3.2 _ _ | exact hG.2 _ _ | exact b01_in _ | assumption | exact ⟨by omega, by omega⟩) (by first | exact hG3.2 _ _ | exact hG.2 _ _ | exact b01_in _ | assumption | exact ⟨by omega, by omega⟩) (fun c7 => ?_) (fun c7 => ?_)
          · refine s_aload_n dX9_personLine_66 rfl ?_
            refine s_callV (d' := d - 1) (bc' := 0) (bs' := 0) (as := []) dX9_personLine_67 vf_X9_114 (dd_ (by omega) (by decide)) ⟨Nat.zero_le _, Nat.zero_le _⟩ rfl rfl (Nat.le_of_ble_eq_true rfl) kl_7 rfl io_196 ?_
            refine c_X9_isWrong hG3 ?_
            refine s_if_eq (tgt := 74) dX9_personLine_70 (by decide) (by first | exact hG3.2 _ _ | exact hG.2 _ _ | exact b01_in _ | assumption | exact ⟨by omega, by omega⟩) (fun c8 => ?_) (fun c8 => ?_)
            · exact absurd (wr_ne W) (b01_0.mp c8)
            · have c8 := b01_n.mp c8
              exact s_return dX9_personLine_73 rfl (k _ (lx_w W hu))
          · exact absurd c7 (by decide)
    · exact absurd c2 (by decide)
  · refine s_aload_n dX9_personLine_9 rfl ?_
    refine s_aload_n dX9_personLine_10 rfl ?_
    refine s_geti dX9_personLine_11 fl_X9_104 kl_7 (by decide) rfl io_196 (z := 16) rfl ?_
    rw [e16]
    refine s_callV (d' := d - 1) (bc' := 0) (bs' := 0) (as := [_]) dX9_personLine_14 vf_X9_137 (dd_ (by omega) (by decide)) ⟨Nat.zero_le _, Nat.zero_le _⟩ rfl rfl (Nat.le_of_ble_eq_true rfl) kl_7 rfl io_196 ?_
    refine c_X9_wrong hG ⟨by omega, by omega⟩ (fun h8 g8 f8 w8 => ?_)
    have hG8 := g8
    have hG := hG8
    rw [if_pos S.2.2.1] at w8
    have W := wr_of S g8 (fun x y c => f8 x y (by omega)) (f8 _ _ (by omega)) w8 (by omega) (by omega)
    have hu : (pPerson 0 T n (nb_ T n a) (wn_ T n a) y).1 = nb_ T n a := by unfold pPerson; rw [iC_t (by omega)]
    refine s_aload_n dX9_personLine_17 rfl ?_
    refine s_iload_n dX9_personLine_18 rfl ?_
    refine s_if_ne (tgt := 27) dX9_personLine_19 (by decide) (by first | exact hG8.2 _ _ | exact hG.2 _ _ | exact b01_in _ | assumption | exact ⟨by omega, by omega⟩) (fun c9 => ?_) (fun c9 => ?_)
    · refine s_iload_n dX9_personLine_27 rfl ?_
      refine s_iconst dX9_personLine_28 ?_
      refine s_icmp_ne (tgt := 37) dX9_personLine_29 (by decide) (by first | exact hG8.2 _ _ | exact hG.2 _ _ | exact b01_in _ | assumption | exact ⟨by omega, by omega⟩) (by first | exact hG8.2 _ _ | exact hG.2 _ _ | exact b01_in _ | assumption | exact ⟨by omega, by omega⟩) (fun c10 => ?_) (fun c10 => ?_)
      · exact absurd rfl c10
      · refine s_ldcS (j := 4) (z := 1000 + ((24 + 4 : Nat) : Int)) dX9_personLine_32 (by decide) rfl rfl (by decide) ?_
        refine s_goto (tgt := 39) dX9_personLine_34 (by decide) ?_
        refine s_callV (d' := d - 1) (bc' := 0) (bs' := 0) (as := [_]) dX9_personLine_39 vf_X9_221 (dd_ (by omega) (by decide)) ⟨Nat.zero_le _, Nat.zero_le _⟩ rfl rfl (Nat.le_of_ble_eq_true rfl) kl_7 rfl io_196 ?_
        refine kw_X9_must (by omega) W (fun hhG9 WhG9 => ?_)
        have hG9 := WhG9.1.1
        have hG := hG9
        have W := WhG9
        refine s_aload_n dX9_personLine_42 rfl ?_
        refine s_iconst dX9_personLine_43 ?_
        refine s_callV (d' := d - 1) (bc' := 0) (bs' := 0) (as := [_]) dX9_personLine_44 vf_X9_225 (dd_ (by omega) (by decide)) ⟨Nat.zero_le _, Nat.zero_le _⟩ rfl rfl (Nat.le_of_ble_eq_true rfl) kl_7 rfl io_196 ?_
        refine kw1_X9_freshName (by omega) W P (fun hhG10 WhG10 => ?_)
        have hG10 := WhG10.1.1
        have hG := hG10
        have W := WhG10
        refine s_istore_n dX9_personLine_47 (by decide) rfl (L' := [_, _, _, _]) rfl ?_
        refine s_iconst dX9_personLine_48 ?_
        refine s_istore_n dX9_personLine_49 (by decide) rfl (L' := [_, _, _, _]) rfl ?_
        refine s_iload_n dX9_personLine_50 rfl ?_
        refine s_iconst dX9_personLine_51 ?_
        refine s_icmp_ne (tgt := 66) dX9_personLine_52 (by decide) (by first | exact hG10.2 _ _ | exact hG.2 _ _ | exact b01_in _ | assumption | exact ⟨by omega, by omega⟩) (by first | exact hG10.2 _ _ | exact hG.2 _ _ | exact b01_in _ | assumption | exact ⟨by omega, by omega⟩) (fun c11 => ?_) (fun c11 => ?_)
        · refine s_aload_n dX9_personLine_66 rfl ?_
          refine s_callV (d' := d - 1) (bc' := 0) (bs' := 0) (as := []) dX9_personLine_67 vf_X9_114 (dd_ (by omega) (by decide)) ⟨Nat.zero_le _, Nat.zero_le _⟩ rfl rfl (Nat.le_of_ble_eq_true rfl) kl_7 rfl io_196 ?_
          refine c_X9_isWrong hG10 ?_
          refine s_if_eq (tgt := 74) dX9_personLine_70 (by decide) (by first | exact hG10.2 _ _ | exact hG.2 _ _ | exact b01_in _ | assumption | exact ⟨by omega, by omega⟩) (fun c12 => ?_) (fun c12 => ?_)
          · exact absurd (wr_ne W) (b01_0.mp c12)
          · have c12 := b01_n.mp c12
            exact s_return dX9_personLine_73 rfl (k _ (lx_w W hu))
        · exact absurd c11 (by decide)
    · exact absurd c9 (by decide)
set_option maxRecDepth 100000 in
set_option maxHeartbeats 4000000 in
theorem c2_X9_personLine  (hd : 9 ≤ d) (S : OK9 n T h a h) (e16 : h 196 16 = nb_ T n a) (P : LN_ y h) (cw : iw_ T (nb_ T n a) (wl__ T n a) (24 + 5)) (k : ∀ h1 : PH, LX_ n T h (pIssue T n (nb_ T n a) (wn_ T n a) y) h1 → Q.1 none nN h1) : Cl_ yX9_personLine MX9_personLine d bc bs [(2, 196), (0, 2)] nN h Q := by
  refine s_enter pn_X9 rfl (Nat.le_of_ble_eq_true rfl) (L := [(2, _), (0, _), (9, 0), (9, 0)]) rfl ?_
  have hG := S.1.1
  have ab := ok_0 S
  have nb0 := nb_0 S
  have yc := ln_c P
  have wle : wl__ T n a = wn_ T n a - nb_ T n a := rfl
  refine s_aload_n dX9_personLine_0 rfl ?_
  refine s_geti dX9_personLine_1 fl_X9_204 kl_7 (by decide) rfl io_196 (z := 20) rfl ?_
  rw [P.1.2.1]
  refine s_bipush dX9_personLine_4 (by decide) ?_
  refine s_icmp_ne (tgt := 17) dX9_personLine_6 (by decide) (by first | exact hG.2 _ _ | exact b01_in _ | assumption | exact ⟨by omega, by omega⟩) (by first | exact hG.2 _ _ | exact b01_in _ | assumption | exact ⟨by omega, by omega⟩) (fun c1 => ?_) (fun c1 => ?_)
  · refine s_aload_n dX9_personLine_17 rfl ?_
    refine s_iload_n dX9_personLine_18 rfl ?_
    refine s_if_ne (tgt := 27) dX9_personLine_19 (by decide) (by first | exact hG.2 _ _ | exact b01_in _ | assumption | exact ⟨by omega, by omega⟩) (fun c2 => ?_) (fun c2 => ?_)
    · refine s_iload_n dX9_personLine_27 rfl ?_
      refine s_iconst dX9_personLine_28 ?_
      refine s_icmp_ne (tgt := 37) dX9_personLine_29 (by decide) (by first | exact hG.2 _ _ | exact b01_in _ | assumption | exact ⟨by omega, by omega⟩) (by first | exact hG.2 _ _ | exact b01_in _ | assumption | exact ⟨by omega, by omega⟩) (fun c3 => ?_) (fun c3 => ?_)
      · refine s_ldcS (j := 5) (z := 1000 + ((24 + 5 : Nat) : Int)) dX9_personLine_37 (by decide) rfl rfl (by decide) ?_
        refine s_callV (d' := d - 1) (bc' := 0) (bs' := 0) (as := [_]) dX9_personLine_39 vf_X9_221 (dd_ (by omega) (by decide)) ⟨Nat.zero_le _, Nat.zero_le _⟩ rfl rfl (Nat.le_of_ble_eq_true rfl) kl_7 rfl io_196 ?_
        refine c_X9_must (j := 24 + 5) (by decide) (by omega) S (fun cc1 h1 S1 e1 => ?_) (fun cc _ _ => absurd cw cc)
        have hG1 := S1.1.1
        have hG := hG1
        have S := S1
        have nb0 := nb_0 S
        refine s_aload_n dX9_personLine_42 rfl ?_
        refine s_iconst dX9_personLine_43 ?_
        refine s_callV (d' := d - 1) (bc' := 0) (bs' := 0) (as := [_]) dX9_personLine_44 vf_X9_225 (dd_ (by omega) (by decide)) ⟨Nat.zero_le _, Nat.zero_le _⟩ rfl rfl (Nat.le_of_ble_eq_true rfl) kl_7 rfl io_196 ?_
        refine c1_X9_freshName (by omega) S P (fun ou2 t2 h2 S2 e2 => ?_) (fun cc3 h3 W3 => ?_)
        · have hG2 := S2.1.1
          have hG := hG2
          have S := S2
          have nb0 := nb_0 S
          have ou := ou2
          have fre := t2
          have nci := nc_in (T := T) (n := n) (a := wn_ T n a)
          refine s_istore_n dX9_personLine_47 (by decide) rfl (L' := [_, _, _, _]) rfl ?_
          refine s_iconst dX9_personLine_48 ?_
          refine s_istore_n dX9_personLine_49 (by decide) rfl (L' := [_, _, _, _]) rfl ?_
          refine s_iload_n dX9_personLine_50 rfl ?_
          refine s_iconst dX9_personLine_51 ?_
          refine s_icmp_ne (tgt := 66) dX9_personLine_52 (by decide) (by first | exact hG2.2 _ _ | exact hG.2 _ _ | exact b01_in _ | assumption | exact ⟨by omega, by omega⟩) (by first | exact hG2.2 _ _ | exact hG.2 _ _ | exact b01_in _ | assumption | exact ⟨by omega, by omega⟩) (fun c4 => ?_) (fun c4 => ?_)
          · exact absurd rfl c4
          · refine s_aload_n dX9_personLine_55 rfl ?_
            refine s_ldcS (j := 6) (z := 1000 + ((24 + 6 : Nat) : Int)) dX9_personLine_56 (by decide) rfl rfl (by decide) ?_
            refine s_callV (d' := d - 1) (bc' := 0) (bs' := 0) (as := [_]) dX9_personLine_58 vf_X9_221 (dd_ (by omega) (by decide)) ⟨Nat.zero_le _, Nat.zero_le _⟩ rfl rfl (Nat.le_of_ble_eq_true rfl) kl_7 rfl io_196 ?_
            refine c_X9_must (j := 24 + 6) (by decide) (by omega) S (fun cc4 h4 S4 e4 => ?_) (fun cc5 h5 W5 => ?_)
            · have hG4 := S4.1.1
              have hG := hG4
              have S := S4
              have nb0 := nb_0 S
              have okw6 : okW T n (wn_ T n (wn_ T n a)) 6 := (iw_24 (j := 6) (by decide)).mp cc4
              refine s_aload_n dX9_personLine_61 rfl ?_
              refine s_callV (d' := d - 1) (bc' := 0) (bs' := 0) (as := []) dX9_personLine_62 vf_X9_233 (dd_ (by omega) (by decide)) ⟨Nat.zero_le _, Nat.zero_le _⟩ rfl rfl (Nat.le_of_ble_eq_true rfl) kl_7 rfl io_196 ?_
              refine c_X9_personHere (by omega) S P (fun cc6 h6 S6 e6 => ?_) (fun cc7 h7 W7 => ?_)
              · have hG6 := S6.1.1
                have hG := hG6
                have S := S6
                have nb0 := nb_0 S
                have cp := cc6
                have pb := tP_bd y T n (wn_ T n (wn_ T n (wn_ T n a)))
                have pb2 : 0 ≤ tP y T n (wn_ T n (wn_ T n (wn_ T n a))) ∧ tP y T n (wn_ T n (wn_ T n (wn_ T n a))) < y 0 1 := by omega
                refine s_istore_n dX9_personLine_65 (by decide) rfl (L' := [_, _, _, _]) rfl ?_
                refine s_aload_n dX9_personLine_66 rfl ?_
                refine s_callV (d' := d - 1) (bc' := 0) (bs' := 0) (as := []) dX9_personLine_67 vf_X9_114 (dd_ (by omega) (by decide)) ⟨Nat.zero_le _, Nat.zero_le _⟩ rfl rfl (Nat.le_of_ble_eq_true rfl) kl_7 rfl io_196 ?_
                refine c_X9_isWrong hG6 ?_
                refine s_if_eq (tgt := 74) dX9_personLine_70 (by decide) (by first | exact hG6.2 _ _ | exact hG.2 _ _ | exact b01_in _ | assumption | exact ⟨by omega, by omega⟩) (fun c5 => ?_) (fun c5 => ?_)
                · have c5 := b01_0.mp c5
                  refine s_aload_n dX9_personLine_74 rfl ?_
                  refine s_getr dX9_personLine_75 fl_X9_49 kl_7 (by decide) rfl io_196 (z := 24) rfl (rf_7_24 hG6.1 io_196) (rk_7_24 io_196).1 ?_
                  refine s_aload_n dX9_personLine_78 rfl ?_
                  refine s_geti dX9_personLine_79 fl_X9_204 kl_7 (by decide) rfl io_196 (z := 20) rfl ?_
                  have P9 := ln_aw P S.2.1
                  rw [P9.1.2.1]
                  refine s_iload_n dX9_personLine_82 rfl ?_
                  refine s_iastoreG dX9_personLine_83 (rk_7_24 io_196) (by omega) (by omega) hG6 (by first | exact hG6.2 _ _ | exact hG.2 _ _ | exact b01_in _ | assumption | exact ⟨by omega, by omega⟩) (fun hG8 => ?_)
                  refine s_aload_n dX9_personLine_84 rfl ?_
                  refine s_getr dX9_personLine_85 fl_X9_52 kl_7 (by decide) rfl io_196 (z := 25) rfl (rf_7_25 hG8.1 io_196) (rk_7_25 io_196).1 ?_
                  refine s_aload_n dX9_personLine_88 rfl ?_
                  refine s_geti dX9_personLine_89 fl_X9_204 kl_7 (by decide) rfl io_196 (z := 20) rfl ?_
                  rw [hs_ne _ (by omega), P9.1.2.1]
                  refine s_iload_n dX9_personLine_92 rfl ?_
                  refine s_iastoreG dX9_personLine_93 (rk_7_25 io_196) (by omega) (by omega) hG8 (by first | exact hG8.2 _ _ | exact hG.2 _ _ | exact b01_in _ | assumption | exact ⟨by omega, by omega⟩) (fun hG9 => ?_)
                  refine s_aload_n dX9_personLine_94 rfl ?_
                  refine s_getr dX9_personLine_95 fl_X9_55 kl_7 (by decide) rfl io_196 (z := 26) rfl (rf_7_26 hG9.1 io_196) (rk_7_26 io_196).1 ?_
                  refine s_aload_n dX9_personLine_98 rfl ?_
                  refine s_geti dX9_personLine_99 fl_X9_204 kl_7 (by decide) rfl io_196 (z := 20) rfl ?_
                  rw [hs_ne _ (by omega), hs_ne _ (by omega), P9.1.2.1]
                  refine s_iload_n dX9_personLine_102 rfl ?_
                  refine s_if_ne (tgt := 110) dX9_personLine_103 (by decide) (by first | exact hG9.2 _ _ | exact hG.2 _ _ | exact b01_in _ | assumption | exact ⟨by omega, by omega⟩) (fun c6 => ?_) (fun c6 => ?_)
                  · refine s_iconst dX9_personLine_110 ?_
                    refine s_bastore2G dX9_personLine_111 (rk_7_26 io_196) (by omega) (by omega) hG9 (by first | exact Or.inl rfl | exact Or.inr rfl | assumption | omega) (fun hG10 => ?_)
                    refine s_aload_n dX9_personLine_112 rfl ?_
                    refine s_dup dX9_personLine_113 rfl ?_
                    refine s_geti dX9_personLine_114 fl_X9_204 kl_7 (by decide) rfl io_196 (z := 20) rfl ?_
                    rw [hs_ne _ (by omega), hs_ne _ (by omega), hs_ne _ (by omega), P9.1.2.1]
                    refine s_iconst dX9_personLine_117 ?_
                    refine s_iadd dX9_personLine_118 ?_
                    refine s_putiG 20 dX9_personLine_119 fl_X9_204 kl_7 (by decide) rfl rfl io_196 (z := 20) rfl (by decide +kernel) hG10 (by first | exact hG10.2 _ _ | exact hG.2 _ _ | exact b01_in _ | assumption | exact ⟨by omega, by omega⟩) (fun hG11 => ?_)
                    refine s_return dX9_personLine_122 rfl (k _ (lx_o (b := 0) S hG11 (fun x k p q => by rw [hs_ne _ (by omega), hs_ne _ (by omega), hs_ne _ (by omega), hs_ne _ (by omega)]) (by unfold pIssue; rw [iC_f (fun q => q (by omega)), iC_f (fun q => q ⟨ou, fre⟩), iC_f (fun q => q okw6), iC_f cp]) (ln_person (p := y 0 1) P9 rfl (by omega) ou (by omega) (by omega) (by omega) (by omega) (fun x k p q => by rw [hs_ne _ (by omega), hs_ne _ (by omega), hs_ne _ (by omega), hs_ne _ (by omega)]) (by rw [hs_ne _ (by omega), hs_ne _ (by omega), hs_ne _ (by omega), hs_eq]) (by rw [hs_ne _ (by omega), hs_ne _ (by omega), hs_eq]) (by rw [hs_ne _ (by omega), hs_eq]) (hs_eq _ _ _ _))))
                  · exact absurd c6 (by decide)
                · exact absurd S.2.2.1 (b01_n.mp c5)
              · have hG7 := W7.1.1
                have hG := hG7
                have W := W7
                have cc := cc7
                have hu : (pIssue T n (nb_ T n a) (wn_ T n a) y).1 = nb_ T n (wn_ T n (wn_ T n (wn_ T n a))) := by unfold pIssue; rw [iC_f (fun q => q (by omega)), iC_f (fun q => q ⟨ou, fre⟩), iC_f (fun q => q okw6), iC_t cc]
                refine s_istore_n dX9_personLine_65 (by decide) rfl (L' := [_, _, _, _]) rfl ?_
                refine s_aload_n dX9_personLine_66 rfl ?_
                refine s_callV (d' := d - 1) (bc' := 0) (bs' := 0) (as := []) dX9_personLine_67 vf_X9_114 (dd_ (by omega) (by decide)) ⟨Nat.zero_le _, Nat.zero_le _⟩ rfl rfl (Nat.le_of_ble_eq_true rfl) kl_7 rfl io_196 ?_
                refine c_X9_isWrong hG7 ?_
                refine s_if_eq (tgt := 74) dX9_personLine_70 (by decide) (by first | exact hG7.2 _ _ | exact hG.2 _ _ | exact b01_in _ | assumption | exact ⟨by omega, by omega⟩) (fun c7 => ?_) (fun c7 => ?_)
                · exact absurd (wr_ne W) (b01_0.mp c7)
                · have c7 := b01_n.mp c7
                  exact s_return dX9_personLine_73 rfl (k _ (lx_w W hu))
            · have hG5 := W5.1.1
              have hG := hG5
              have W := W5
              have cc : ¬ okW T n (wn_ T n (wn_ T n a)) 6 := fun q => cc5 ((iw_24 (j := 6) (by decide)).mpr q)
              have hu : (pIssue T n (nb_ T n a) (wn_ T n a) y).1 = nb_ T n (wn_ T n (wn_ T n a)) := by unfold pIssue; rw [iC_f (fun q => q (by omega)), iC_f (fun q => q ⟨ou, fre⟩), iC_t cc]
              refine s_aload_n dX9_personLine_61 rfl ?_
              refine s_callV (d' := d - 1) (bc' := 0) (bs' := 0) (as := []) dX9_personLine_62 vf_X9_233 (dd_ (by omega) (by decide)) ⟨Nat.zero_le _, Nat.zero_le _⟩ rfl rfl (Nat.le_of_ble_eq_true rfl) kl_7 rfl io_196 ?_
              refine kw_X9_personHere (by omega) W P (fun hhG12 WhG12 => ?_)
              have hG12 := WhG12.1.1
              have hG := hG12
              have W := WhG12
              refine s_istore_n dX9_personLine_65 (by decide) rfl (L' := [_, _, _, _]) rfl ?_
              refine s_aload_n dX9_personLine_66 rfl ?_
              refine s_callV (d' := d - 1) (bc' := 0) (bs' := 0) (as := []) dX9_personLine_67 vf_X9_114 (dd_ (by omega) (by decide)) ⟨Nat.zero_le _, Nat.zero_le _⟩ rfl rfl (Nat.le_of_ble_eq_true rfl) kl_7 rfl io_196 ?_
              refine c_X9_isWrong hG12 ?_
              refine s_if_eq (tgt := 74) dX9_personLine_70 (by decide) (by first | exact hG12.2 _ _ | exact hG.2 _ _ | exact b01_in _ | assumption | exact ⟨by omega, by omega⟩) (fun c8 => ?_) (fun c8 => ?_)
              · exact absurd (wr_ne W) (b01_0.mp c8)
              · have c8 := b01_n.mp c8
                exact s_return dX9_personLine_73 rfl (k _ (lx_w W hu))
        · have hG3 := W3.1.1
          have hG := hG3
          have W := W3
          have cc := cc3
          have hu : (pIssue T n (nb_ T n a) (wn_ T n a) y).1 = nb_ T n (wn_ T n a) := by unfold pIssue; rw [iC_f (fun q => q (by omega)), iC_t cc]
          refine s_istore_n dX9_personLine_47 (by decide) rfl (L' := [_, _, _, _]) rfl ?_
          refine s_iconst dX9_personLine_48 ?_
          refine s_istore_n dX9_personLine_49 (by decide) rfl (L' := [_, _, _, _]) rfl ?_
          refine s_iload_n dX9_personLine_50 rfl ?_
          refine s_iconst dX9_personLine_51 ?_
          refine s_icmp_ne (tgt := 66) dX9_personLine_52 (by decide) (by first | exact hG3.2 _ _ | exact hG.2 _ _ | exact b01_in _ | assumption | exact ⟨by omega, by omega⟩) (by first | exact hG3.2 _ _ | exact hG.2 _ _ | exact b01_in _ | assumption | exact ⟨by omega, by omega⟩) (fun c9 => ?_) (fun c9 => ?_)
          · exact absurd rfl c9
          · refine s_aload_n dX9_personLine_55 rfl ?_
            refine s_ldcS (j := 6) (z := 1000 + ((24 + 6 : Nat) : Int)) dX9_personLine_56 (by decide) rfl rfl (by decide) ?_
            refine s_callV (d' := d - 1) (bc' := 0) (bs' := 0) (as := [_]) dX9_personLine_58 vf_X9_221 (dd_ (by omega) (by decide)) ⟨Nat.zero_le _, Nat.zero_le _⟩ rfl rfl (Nat.le_of_ble_eq_true rfl) kl_7 rfl io_196 ?_
            refine kw_X9_must (by omega) W (fun hhG13 WhG13 => ?_)
            have hG13 := WhG13.1.1
            have hG := hG13
            have W := WhG13
            refine s_aload_n dX9_personLine_61 rfl ?_
            refine s_callV (d' := d - 1) (bc' := 0) (bs' := 0) (as := []) dX9_personLine_62 vf_X9_233 (dd_ (by omega) (by decide)) ⟨Nat.zero_le _, Nat.zero_le _⟩ rfl rfl (Nat.le_of_ble_eq_true rfl) kl_7 rfl io_196 ?_
            refine kw_X9_personHere (by omega) W P (fun hhG14 WhG14 => ?_)
            have hG14 := WhG14.1.1
            have hG := hG14
            have W := WhG14
            refine s_istore_n dX9_personLine_65 (by decide) rfl (L' := [_, _, _, _]) rfl ?_
            refine s_aload_n dX9_personLine_66 rfl ?_
            refine s_callV (d' := d - 1) (bc' := 0) (bs' := 0) (as := []) dX9_personLine_67 vf_X9_114 (dd_ (by omega) (by decide)) ⟨Nat.zero_le _, Nat.zero_le _⟩ rfl rfl (Nat.le_of_ble_eq_true rfl) kl_7 rfl io_196 ?_
            refine c_X9_isWrong hG14 ?_
            refine s_if_eq (tgt := 74) dX9_personLine_70 (by decide) (by first | exact hG14.2 _ _ | exact hG.2 _ _ | exact b01_in _ | assumption | exact ⟨by omega, by omega⟩) (fun c10 => ?_) (fun c10 => ?_)
            · exact absurd (wr_ne W) (b01_0.mp c10)
            · have c10 := b01_n.mp c10
              exact s_return dX9_personLine_73 rfl (k _ (lx_w W hu))
      · exact absurd c3 (by decide)
    · exact absurd c2 (by decide)
  · refine s_aload_n dX9_personLine_9 rfl ?_
    refine s_aload_n dX9_personLine_10 rfl ?_
    refine s_geti dX9_personLine_11 fl_X9_104 kl_7 (by decide) rfl io_196 (z := 16) rfl ?_
    rw [e16]
    refine s_callV (d' := d - 1) (bc' := 0) (bs' := 0) (as := [_]) dX9_personLine_14 vf_X9_137 (dd_ (by omega) (by decide)) ⟨Nat.zero_le _, Nat.zero_le _⟩ rfl rfl (Nat.le_of_ble_eq_true rfl) kl_7 rfl io_196 ?_
    refine c_X9_wrong hG ⟨by omega, by omega⟩ (fun h15 g15 f15 w15 => ?_)
    have hG15 := g15
    have hG := hG15
    rw [if_pos S.2.2.1] at w15
    have W := wr_of S g15 (fun x y c => f15 x y (by omega)) (f15 _ _ (by omega)) w15 (by omega) (by omega)
    have hu : (pIssue T n (nb_ T n a) (wn_ T n a) y).1 = nb_ T n a := by unfold pIssue; rw [iC_t (by omega)]
    refine s_aload_n dX9_personLine_17 rfl ?_
    refine s_iload_n dX9_personLine_18 rfl ?_
    refine s_if_ne (tgt := 27) dX9_personLine_19 (by decide) (by first | exact hG15.2 _ _ | exact hG.2 _ _ | exact b01_in _ | assumption | exact ⟨by omega, by omega⟩) (fun c11 => ?_) (fun c11 => ?_)
    · refine s_iload_n dX9_personLine_27 rfl ?_
      refine s_iconst dX9_personLine_28 ?_
      refine s_icmp_ne (tgt := 37) dX9_personLine_29 (by decide) (by first | exact hG15.2 _ _ | exact hG.2 _ _ | exact b01_in _ | assumption | exact ⟨by omega, by omega⟩) (by first | exact hG15.2 _ _ | exact hG.2 _ _ | exact b01_in _ | assumption | exact ⟨by omega, by omega⟩) (fun c12 => ?_) (fun c12 => ?_)
      · refine s_ldcS (j := 5) (z := 1000 + ((24 + 5 : Nat) : Int)) dX9_personLine_37 (by decide) rfl rfl (by decide) ?_
        refine s_callV (d' := d - 1) (bc' := 0) (bs' := 0) (as := [_]) dX9_personLine_39 vf_X9_221 (dd_ (by omega) (by decide)) ⟨Nat.zero_le _, Nat.zero_le _⟩ rfl rfl (Nat.le_of_ble_eq_true rfl) kl_7 rfl io_196 ?_
        refine kw_X9_must (by omega) W (fun hhG16 WhG16 => ?_)
        have hG16 := WhG16.1.1
        have hG := hG16
        have W := WhG16
        refine s_aload_n dX9_personLine_42 rfl ?_
        refine s_iconst dX9_personLine_43 ?_
        refine s_callV (d' := d - 1) (bc' := 0) (bs' := 0) (as := [_]) dX9_personLine_44 vf_X9_225 (dd_ (by omega) (by decide)) ⟨Nat.zero_le _, Nat.zero_le _⟩ rfl rfl (Nat.le_of_ble_eq_true rfl) kl_7 rfl io_196 ?_
        refine kw1_X9_freshName (by omega) W P (fun hhG17 WhG17 => ?_)
        have hG17 := WhG17.1.1
        have hG := hG17
        have W := WhG17
        refine s_istore_n dX9_personLine_47 (by decide) rfl (L' := [_, _, _, _]) rfl ?_
        refine s_iconst dX9_personLine_48 ?_
        refine s_istore_n dX9_personLine_49 (by decide) rfl (L' := [_, _, _, _]) rfl ?_
        refine s_iload_n dX9_personLine_50 rfl ?_
        refine s_iconst dX9_personLine_51 ?_
        refine s_icmp_ne (tgt := 66) dX9_personLine_52 (by decide) (by first | exact hG17.2 _ _ | exact hG.2 _ _ | exact b01_in _ | assumption | exact ⟨by omega, by omega⟩) (by first | exact hG17.2 _ _ | exact hG.2 _ _ | exact b01_in _ | assumption | exact ⟨by omega, by omega⟩) (fun c13 => ?_) (fun c13 => ?_)
        · exact absurd rfl c13
        · refine s_aload_n dX9_personLine_55 rfl ?_
          refine s_ldcS (j := 6) (z := 1000 + ((24 + 6 : Nat) : Int)) dX9_personLine_56 (by decide) rfl rfl (by decide) ?_
          refine s_callV (d' := d - 1) (bc' := 0) (bs' := 0) (as := [_]) dX9_personLine_58 vf_X9_221 (dd_ (by omega) (by decide)) ⟨Nat.zero_le _, Nat.zero_le _⟩ rfl rfl (Nat.le_of_ble_eq_true rfl) kl_7 rfl io_196 ?_
          refine kw_X9_must (by omega) W (fun hhG18 WhG18 => ?_)
          have hG18 := WhG18.1.1
          have hG := hG18
          have W := WhG18
          refine s_aload_n dX9_personLine_61 rfl ?_
          refine s_callV (d' := d - 1) (bc' := 0) (bs' := 0) (as := []) dX9_personLine_62 vf_X9_233 (dd_ (by omega) (by decide)) ⟨Nat.zero_le _, Nat.zero_le _⟩ rfl rfl (Nat.le_of_ble_eq_true rfl) kl_7 rfl io_196 ?_
          refine kw_X9_personHere (by omega) W P (fun hhG19 WhG19 => ?_)
          have hG19 := WhG19.1.1
          have hG := hG19
          have W := WhG19
          refine s_istore_n dX9_personLine_65 (by decide) rfl (L' := [_, _, _, _]) rfl ?_
          refine s_aload_n dX9_personLine_66 rfl ?_
          refine s_callV (d' := d - 1) (bc' := 0) (bs' := 0) (as := []) dX9_personLine_67 vf_X9_114 (dd_ (by omega) (by decide)) ⟨Nat.zero_le _, Nat.zero_le _⟩ rfl rfl (Nat.le_of_ble_eq_true rfl) kl_7 rfl io_196 ?_
          refine c_X9_isWrong hG19 ?_
          refine s_if_eq (tgt := 74) dX9_personLine_70 (by decide) (by first | exact hG19.2 _ _ | exact hG.2 _ _ | exact b01_in _ | assumption | exact ⟨by omega, by omega⟩) (fun c14 => ?_) (fun c14 => ?_)
          · exact absurd (wr_ne W) (b01_0.mp c14)
          · have c14 := b01_n.mp c14
            exact s_return dX9_personLine_73 rfl (k _ (lx_w W hu))
      · exact absurd c12 (by decide)
    · exact absurd c11 (by decide)
end X9U
