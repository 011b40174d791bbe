/-! the reference reads: lines -/
/-- what reading alone changes -/
def FL_ (h h1 : PH) : Prop := ∀ x y : Int, ¬ (x = 196 ∧ 16 ≤ y ∧ y ≤ 21) → ¬ (196 + 10 ≤ x ∧ x ≤ 196 + 15) → h1 x y = h x y
theorem aw_fl {h h1 : PH} (f : AW_ h h1) : FL_ h h1 := fun x y a _ => f x y (by omega)
/-- where a line has come to: right, what was told is u's, or wrong where u says -/
def LX_ (n : Int) (T : Int → Int) (h0 : PH) (u : OU) (h1 : PH) : Prop := RN_ n T h1 ∧ FL_ h0 h1 ∧
  ((u.1 = -1 ∧ h1 196 17 = -1 ∧ (h1 196 16 = u.2.1 ∨ h1 196 16 = nb_ T n u.2.1) ∧ u.2.1 ≤ n ∧ LN_ u.2.2 h1) ∨ (¬ u.1 = -1 ∧ h1 196 17 = u.1 ∧ 0 ≤ u.1 ∧ u.1 ≤ n))
theorem lx_w {n f : Int} {T : Int → Int} {h0 h1 : PH} {u : OU} (W : WR9 n T h0 f h1) (e : u.1 = f) : LX_ n T h0 u h1 := by
  have b := W.2.2.2
  exact ⟨W.1, aw_fl W.2.1, Or.inr ⟨by omega, by rw [e]; exact W.2.2.1, by omega, by omega⟩⟩
theorem wr_ne {n f : Int} {T : Int → Int} {h0 h : PH} (W : WR9 n T h0 f h) : ¬ h 196 17 = -1 := by
  have a := W.2.2.1
  have b := W.2.2.2
  omega
theorem ok_re {n a : Int} {T : Int → Int} {h0 h : PH} (S : OK9 n T h0 a h) : OK9 n T h a h := ⟨S.1, fun _ _ _ => rfl, S.2.2⟩
theorem wr_re {n f : Int} {T : Int → Int} {h0 h : PH} (S : WR9 n T h0 f h) : WR9 n T h f h := ⟨S.1, fun _ _ _ => rfl, S.2.2⟩
/-- other facts told -/
theorem ln_row {y h h1 : PH} {F : Int → Int} (P : LN_ y h) (f : ∀ x k : Int, ¬ x = 196 + 10 → ¬ (x = 196 ∧ 16 ≤ k ∧ k ≤ 18) → h1 x k = h x k) (R : ∀ k : Int, 0 ≤ k → k < 61 → h1 (196 + 10) k = F (pm_ k)) (zf : ZF (fun _ => F)) : LN_ (zput y F) h1 := by
  obtain ⟨⟨a1, a2, a3⟩, a4, a5, a6, a7, a8, ⟨b1, b2, b3, b4, b5, b6⟩, c1, c2⟩ := P
  have e : ∀ x : Int, ¬ x = 1 → zput y F x = y x := fun x h => zput_ne h
  have e0 := e 0 (by omega)
  have hT := b2.1
  have hP := b2.2.1
  have hN := b2.2.2
  refine ⟨⟨by rw [f _ _ (by omega) (by omega), e0]; exact a1, by rw [f _ _ (by omega) (by omega), e0]; exact a2, by rw [f _ _ (by omega) (by omega), e0]; exact a3⟩, fun k p q => by rw [zput_1]; exact R k p q, fun k p q => ?_, fun k p q => ?_, fun k p q => ?_, fun g v p q r s => ?_, ⟨zf_put zf, ?_, ?_, ?_, ?_, ?_⟩, fun k p q => ?_, fun k p q => ?_⟩
  · rw [e0] at q
    rw [f _ _ (by omega) (by omega), e (20 + k) (by omega), e 10 (by omega)]
    exact a5 k p q
  · rw [e0] at q
    rw [f _ _ (by omega) (by omega), e (30 + k) (by omega), e 11 (by omega)]
    exact a6 k p q
  · rw [e0] at q
    rw [f _ _ (by omega) (by omega), f _ _ (by omega) (by omega), e 2 (by omega), e 3 (by omega)]
    exact a7 k p q
  · rw [e0] at q
    rw [f _ _ (by omega) (by omega), e (5 + v) (by omega)]
    exact a8 g v p q r s
  · unfold YC_
    rw [e0]
    exact b2
  · rw [e0]
    exact b3
  · unfold YP_
    rw [e0, e 2 (by omega), e 3 (by omega)]
    exact b4
  · unfold YG_
    rw [e0, e 5 (by omega), e 6 (by omega), e 7 (by omega), e 8 (by omega), e 9 (by omega)]
    exact b5
  · refine ⟨fun t p q => ?_, fun t p q => ?_⟩
    · rw [e0] at q
      rw [e 10 (by omega), e (20 + t) (by omega)]
      exact b6.1 t p q
    · rw [e0] at q
      rw [e 11 (by omega), e (30 + t) (by omega)]
      exact b6.2 t p q
  · rw [e0] at q
    rw [e 10 (by omega), e (20 + k) (by omega)]
    exact c1 k p q
  · rw [e0] at q
    rw [e 11 (by omega), e (30 + k) (by omega)]
    exact c2 k p q
theorem row_put {h : PH} {F : Int → Int} {k j v : Int} (R : ∀ i : Int, 0 ≤ i → i < 61 → h (196 + 10) i = F (pm_ i)) (k0 : 0 ≤ k) (k1 : k < 61) (e : pm_ k = j) : ∀ i : Int, 0 ≤ i → i < 61 → hs_ h (196 + 10) k v (196 + 10) i = fu_ F j v (pm_ i) := fun i i0 i1 => by
  by_cases c : i = k
  · rw [c, hs_eq, e, fu_eq]
  · rw [hs_ne _ (by omega), fu_ne (fun q => c (pm_inj i0 i1 k0 k1 (q.trans e.symm)))]
    exact R i i0 i1
/-- right, what was told now is y1 -/
theorem lx_o {n a b : Int} {T : Int → Int} {h0 h h1 y1 : PH} {u : OU} (S : OK9 n T h0 a h) (g : G h1) (f : ∀ x k : Int, ¬ (196 + 10 ≤ x ∧ x ≤ 196 + 15) → ¬ (x = 196 ∧ 19 ≤ k ∧ k ≤ 21) → h1 x k = h x k) (e : u = (-1, a, y1)) (P : LN_ y1 h1) : LX_ n T h0 u h1 := by
  obtain ⟨R, A, ok, at_, an⟩ := S
  subst e
  refine ⟨⟨g, (f _ _ (by omega) (by omega)).trans R.2.1, by rw [f _ _ (by omega) (by omega)]; exact R.2.2.1, R.2.2.2.1, fun k p q => (f _ _ (by omega) (by omega)).trans (R.2.2.2.2 k p q)⟩, fun x k p q => (f x k q (by omega)).trans (A x k (by omega)), Or.inl ⟨rfl, (f _ _ (by omega) (by omega)).trans ok, ?_, an, P⟩⟩
  rw [f _ _ (by omega) (by omega)]
  exact at_
section X9S
variable {d bc bs : Nat} {Q : PQ} {h h0 y : PH} {n a f : Int} {T : Int → Int}
set_option maxRecDepth 100000 in
set_option maxHeartbeats 4000000 in
theorem c_X9_tells {J : Nat} {w hi k9 : Int} (hJ : J < 23) (hk9 : k9 = 56 + w) (w0 : 0 ≤ w) (w4 : w ≤ 4) (hhi : inI hi) (hz : ∀ v : Int, 0 ≤ v → v ≤ hi → zok (56 + w) v) (hd : 9 ≤ d) (S : OK9 n T h a h) (P : LN_ y h) (cw : iw_ T (nb_ T n a) (wl__ T n a) (24 + J)) (k : ∀ h1 : PH, LX_ n T h (pTold w hi T n (wn_ T n a) y) h1 → Q.1 none nN h1) : Cl_ yX9_tells MX9_tells d bc bs [(2, 196), (2, 1000 + ((24 + J : Nat) : Int)), (0, k9), (0, hi)] nN h Q := by
  refine s_enter pn_X9 rfl (Nat.le_of_ble_eq_true rfl) (L := [(2, _), (2, _), (0, _), (0, _), (9, 0)]) rfl ?_
  subst hk9
  have hhi1 := hhi.1
  have hhi2 := hhi.2
  have hG := S.1.1
  have ab := ok_0 S
  have nb0 := nb_0 S
  have yc := ln_c P
  have wle : wl__ T n a = wn_ T n a - nb_ T n a := rfl
  refine s_aload_n dX9_tells_0 rfl ?_
  refine s_aload_n dX9_tells_1 rfl ?_
  refine s_callV (d' := d - 1) (bc' := 0) (bs' := 0) (as := [_]) dX9_tells_2 vf_X9_221 (dd_ (by omega) (by decide)) ⟨Nat.zero_le _, Nat.zero_le _⟩ rfl rfl (Nat.le_of_ble_eq_true rfl) kl_7 rfl io_196 ?_
  refine c_X9_must (j := 24 + J) (by omega) (by omega) S (fun cc1 h1 S1 e1 => ?_) (fun cc _ _ => absurd cw cc)
  have hG1 := S1.1.1
  have hG := hG1
  have S := S1
  have nb0 := nb_0 S
  refine s_aload_n dX9_tells_5 rfl ?_
  refine s_iconst dX9_tells_6 ?_
  refine s_iload_n dX9_tells_7 rfl ?_
  refine s_callV (d' := d - 1) (bc' := 0) (bs' := 0) (as := [_, _]) dX9_tells_8 vf_X9_229 (dd_ (by omega) (by decide)) ⟨Nat.zero_le _, Nat.zero_le _⟩ rfl rfl (Nat.le_of_ble_eq_true rfl) kl_7 rfl io_196 ?_
  refine c_X9_number (by omega) S ⟨by decide, by decide⟩ hhi (fun cc2 h2 S2 e2 m2 => ?_) (fun cc3 h3 v3 W3 hv3 => ?_)
  · have hG2 := S2.1.1
    have hG := hG2
    have S := S2
    have nb0 := nb_0 S
    have cn := cc2
    have e18 := m2
    have cnb := cc2.2
    refine s_istore dX9_tells_11 (by decide) rfl (L' := [_, _, _, _, _]) rfl ?_
    refine s_aload_n dX9_tells_13 rfl ?_
    refine s_getr dX9_tells_14 fl_X9_43 kl_7 (by decide) rfl io_196 (z := 22) rfl (rf_7_22 hG2.1 io_196) (rk_7_22 io_196).1 ?_
    refine s_iload_n dX9_tells_17 rfl ?_
    refine s_aload_n dX9_tells_18 rfl ?_
    refine s_callV (d' := d - 1) (bc' := 0) (bs' := 0) (as := []) dX9_tells_19 vf_X9_114 (dd_ (by omega) (by decide)) ⟨Nat.zero_le _, Nat.zero_le _⟩ rfl rfl (Nat.le_of_ble_eq_true rfl) kl_7 rfl io_196 ?_
    refine c_X9_isWrong hG2 ?_
    refine s_if_eq (tgt := 34) dX9_tells_22 (by decide) (by first | exact hG2.2 _ _ | exact hG.2 _ _ | exact b01_in _ | assumption | exact ⟨by omega, by omega⟩) (fun c1 => ?_) (fun c1 => ?_)
    · have c1 := b01_0.mp c1
      refine s_iload dX9_tells_34 rfl ?_
      refine s_iastoreG dX9_tells_36 (rk_7_22 io_196) (by omega) (by omega) hG2 (by first | exact hG2.2 _ _ | exact hG.2 _ _ | exact b01_in _ | assumption | exact ⟨by omega, by omega⟩) (fun hG4 => ?_)
      have P9 := ln_aw P S.2.1
      have cn2 := cn.2
      exact s_return dX9_tells_37 rfl (k _ (lx_o (b := 0) S hG4 (fun x k p q => hs_ne _ (by omega)) (by unfold pTold; rw [iC_f (fun q => q cn)]) (ln_row P9 (fun x k p q => hs_ne _ (by omega)) (row_put P9.2.1 (by omega) (by omega) (pm_h (by omega))) (zf_fu (zf_z.mp P.2.2.2.2.2.2.1.1) (hz _ cn2.1 cn2.2)))))
    · exact absurd S.2.2.1 (b01_n.mp c1)
  · have hG3 := W3.1.1
    have hG := hG3
    have W := W3
    have cc := cc3
    have hv39 := hv3
    have hu : (pTold w hi T n (wn_ T n a) y).1 = nb_ T n (wn_ T n a) := by unfold pTold; rw [iC_t cc]
    refine s_istore dX9_tells_11 (by decide) rfl (L' := [_, _, _, _, _]) rfl ?_
    refine s_aload_n dX9_tells_13 rfl ?_
    refine s_getr dX9_tells_14 fl_X9_43 kl_7 (by decide) rfl io_196 (z := 22) rfl (rf_7_22 hG3.1 io_196) (rk_7_22 io_196).1 ?_
    refine s_iload_n dX9_tells_17 rfl ?_
    refine s_aload_n dX9_tells_18 rfl ?_
    refine s_callV (d' := d - 1) (bc' := 0) (bs' := 0) (as := []) dX9_tells_19 vf_X9_114 (dd_ (by omega) (by decide)) ⟨Nat.zero_le _, Nat.zero_le _⟩ rfl rfl (Nat.le_of_ble_eq_true rfl) kl_7 rfl io_196 ?_
    refine c_X9_isWrong hG3 ?_
    refine s_if_eq (tgt := 34) dX9_tells_22 (by decide) (by first | exact hG3.2 _ _ | exact hG.2 _ _ | exact b01_in _ | assumption | exact ⟨by omega, by omega⟩) (fun c2 => ?_) (fun c2 => ?_)
    · exact absurd (wr_ne W) (b01_0.mp c2)
    · have c2 := b01_n.mp c2
      refine s_aload_n dX9_tells_25 rfl ?_
      refine s_getr dX9_tells_26 fl_X9_43 kl_7 (by decide) rfl io_196 (z := 22) rfl (rf_7_22 hG3.1 io_196) (rk_7_22 io_196).1 ?_
      refine s_iload_n dX9_tells_29 rfl ?_
      refine s_iaload dX9_tells_30 (rk_7_22 io_196) (by omega) (by omega) ?_
      refine s_goto (tgt := 36) dX9_tells_31 (by decide) ?_
      refine s_iastoreG dX9_tells_36 (rk_7_22 io_196) (by omega) (by omega) hG3 (by first | exact hG3.2 _ _ | exact hG.2 _ _ | exact b01_in _ | assumption | exact ⟨by omega, by omega⟩) (fun hG5 => ?_)
      have W9 : WR9 n T h (nb_ T n (wn_ T n a)) _ := W
      have X9 := lx_w W hu
      refine s_return dX9_tells_37 rfl (k _ ⟨⟨hG5, (hs_ne _ (by omega)).trans X9.1.2.1, by rw [hs_ne _ (by omega)]; exact X9.1.2.2.1, X9.1.2.2.2.1, fun k p q => (hs_ne _ (by omega)).trans (X9.1.2.2.2.2 k p q)⟩, fun x k p q => (hs_ne _ (by omega)).trans (X9.2.1 x k p q), ?_⟩)
      rcases X9.2.2 with q | q
      · exact absurd (hu.symm.trans q.1) (by omega)
      · exact Or.inr ⟨q.1, (hs_ne _ (by omega)).trans q.2.1, q.2.2⟩
set_option maxRecDepth 100000 in
set_option maxHeartbeats 4000000 in
theorem c_X9_lostLine  (hd : 9 ≤ d) (S : OK9 n T h a h) (P : LN_ y h) (cw : iw_ T (nb_ T n a) (wl__ T n a) (24 + 16)) (k : ∀ h1 : PH, LX_ n T h (pLost T n (wn_ T n a) y) h1 → Q.1 none nN h1) : Cl_ yX9_lostLine MX9_lostLine d bc bs [(2, 196)] nN h Q := by
  refine s_enter pn_X9 rfl (Nat.le_of_ble_eq_true rfl) (L := [(2, _), (9, 0), (9, 0)]) rfl ?_
  have hG := S.1.1
  have ab := ok_0 S
  have nb0 := nb_0 S
  have yc := ln_c P
  have wle : wl__ T n a = wn_ T n a - nb_ T n a := rfl
  refine s_aload_n dX9_lostLine_0 rfl ?_
  refine s_ldcS (j := 16) (z := 1000 + ((24 + 16 : Nat) : Int)) dX9_lostLine_1 (by decide) rfl rfl (by decide) ?_
  refine s_callV (d' := d - 1) (bc' := 0) (bs' := 0) (as := [_]) dX9_lostLine_3 vf_X9_221 (dd_ (by omega) (by decide)) ⟨Nat.zero_le _, Nat.zero_le _⟩ rfl rfl (Nat.le_of_ble_eq_true rfl) kl_7 rfl io_196 ?_
  refine c_X9_must (j := 24 + 16) (by decide) (by omega) S (fun cc1 h1 S1 e1 => ?_) (fun cc _ _ => absurd cw cc)
  have hG1 := S1.1.1
  have hG := hG1
  have S := S1
  have nb0 := nb_0 S
  refine s_aload_n dX9_lostLine_6 rfl ?_
  refine s_iconst dX9_lostLine_7 ?_
  refine s_callV (d' := d - 1) (bc' := 0) (bs' := 0) (as := [_]) dX9_lostLine_8 vf_X9_236 (dd_ (by omega) (by decide)) ⟨Nat.zero_le _, Nat.zero_le _⟩ rfl rfl (Nat.le_of_ble_eq_true rfl) kl_7 rfl io_196 ?_
  refine c3_X9_thingHere (by omega) S P (fun cc2 h2 S2 e2 => ?_) (fun cc3 h3 W3 => ?_)
  · have hG2 := S2.1.1
    have hG := hG2
    have S := S2
    have nb0 := nb_0 S
    have mh3 := cc2
    have mh : okH T n (wn_ T n a) y := ⟨mh3.1, mh3.2.2.2 rfl⟩
    have tb := tT_bd y T n (wn_ T n a)
    have tb2 : 0 ≤ tT y T n (wn_ T n a) ∧ tT y T n (wn_ T n a) < 8 := by have q := mh.1; omega
    refine s_istore_n dX9_lostLine_11 (by decide) rfl (L' := [_, _, _]) rfl ?_
    refine s_aload_n dX9_lostLine_12 rfl ?_
    refine s_ldcS (j := 17) (z := 1000 + ((24 + 17 : Nat) : Int)) dX9_lostLine_13 (by decide) rfl rfl (by decide) ?_
    refine s_callV (d' := d - 1) (bc' := 0) (bs' := 0) (as := [_]) dX9_lostLine_15 vf_X9_221 (dd_ (by omega) (by decide)) ⟨Nat.zero_le _, Nat.zero_le _⟩ rfl rfl (Nat.le_of_ble_eq_true rfl) kl_7 rfl io_196 ?_
    refine c_X9_must (j := 24 + 17) (by decide) (by omega) S (fun cc4 h4 S4 e4 => ?_) (fun cc5 h5 W5 => ?_)
    · have hG4 := S4.1.1
      have hG := hG4
      have S := S4
      have nb0 := nb_0 S
      have cc17 : okW T n (wn_ T n (wn_ T n a)) 17 := (iw_24 (j := 17) (by decide)).mp cc4
      refine s_aload_n dX9_lostLine_18 rfl ?_
      refine s_iconst dX9_lostLine_19 ?_
      refine s_sipush dX9_lostLine_20 (by decide) ?_
      refine s_callV (d' := d - 1) (bc' := 0) (bs' := 0) (as := [_, _]) dX9_lostLine_23 vf_X9_229 (dd_ (by omega) (by decide)) ⟨Nat.zero_le _, Nat.zero_le _⟩ rfl rfl (Nat.le_of_ble_eq_true rfl) kl_7 rfl io_196 ?_
      refine c_X9_number (by omega) S ⟨by decide, by decide⟩ ⟨by decide, by decide⟩ (fun cc6 h6 S6 e6 m6 => ?_) (fun cc7 h7 v7 W7 hv7 => ?_)
      · have hG6 := S6.1.1
        have hG := hG6
        have S := S6
        have nb0 := nb_0 S
        have cn := cc6
        have e18 := m6
        have cnb := cc6.2
        refine s_istore_n dX9_lostLine_26 (by decide) rfl (L' := [_, _, _]) rfl ?_
        refine s_aload_n dX9_lostLine_27 rfl ?_
        refine s_callV (d' := d - 1) (bc' := 0) (bs' := 0) (as := []) dX9_lostLine_28 vf_X9_114 (dd_ (by omega) (by decide)) ⟨Nat.zero_le _, Nat.zero_le _⟩ rfl rfl (Nat.le_of_ble_eq_true rfl) kl_7 rfl io_196 ?_
        refine c_X9_isWrong hG6 ?_
        refine s_if_eq (tgt := 35) dX9_lostLine_31 (by decide) (by first | exact hG6.2 _ _ | exact hG.2 _ _ | exact b01_in _ | assumption | exact ⟨by omega, by omega⟩) (fun c1 => ?_) (fun c1 => ?_)
        · have c1 := b01_0.mp c1
          refine s_aload_n dX9_lostLine_35 rfl ?_
          refine s_getr dX9_lostLine_36 fl_X9_43 kl_7 (by decide) rfl io_196 (z := 22) rfl (rf_7_22 hG6.1 io_196) (rk_7_22 io_196).1 ?_
          refine s_iconst dX9_lostLine_39 ?_
          refine s_iconst dX9_lostLine_40 ?_
          refine s_iload_n dX9_lostLine_41 rfl ?_
          refine s_imul dX9_lostLine_42 ?_
          refine s_iadd dX9_lostLine_43 ?_
          refine s_iconst dX9_lostLine_44 ?_
          refine s_iadd dX9_lostLine_45 ?_
          refine s_iconst dX9_lostLine_46 ?_
          refine s_iastoreG dX9_lostLine_47 (rk_7_22 io_196) (by omega) (by omega) hG6 (by first | exact hG6.2 _ _ | exact hG.2 _ _ | exact b01_in _ | assumption | exact ⟨by omega, by omega⟩) (fun hG8 => ?_)
          refine s_aload_n dX9_lostLine_48 rfl ?_
          refine s_getr dX9_lostLine_49 fl_X9_43 kl_7 (by decide) rfl io_196 (z := 22) rfl (rf_7_22 hG8.1 io_196) (rk_7_22 io_196).1 ?_
          refine s_iconst dX9_lostLine_52 ?_
          refine s_iconst dX9_lostLine_53 ?_
          refine s_iload_n dX9_lostLine_54 rfl ?_
          refine s_imul dX9_lostLine_55 ?_
          refine s_iadd dX9_lostLine_56 ?_
          refine s_iconst dX9_lostLine_57 ?_
          refine s_iadd dX9_lostLine_58 ?_
          refine s_iload_n dX9_lostLine_59 rfl ?_
          refine s_iastoreG dX9_lostLine_60 (rk_7_22 io_196) (by omega) (by omega) hG8 (by first | exact hG8.2 _ _ | exact hG.2 _ _ | exact b01_in _ | assumption | exact ⟨by omega, by omega⟩) (fun hG9 => ?_)
          have P9 := ln_aw P S.2.1
          have cn2 := cn.2
          refine s_return dX9_lostLine_61 rfl (k _ (lx_o (b := 0) S hG9 (fun x k p q => by rw [hs_ne _ (by omega), hs_ne _ (by omega)]) (by unfold pLost; rw [iC_f (fun q => q mh), iC_f (fun q => q cc17), iC_f (fun q => q cn)]) (ln_row P9 (fun x k p q => by rw [hs_ne _ (by omega), hs_ne _ (by omega)]) ?_ (zf_lost (zf_z.mp P.2.2.2.2.2.2.1.1) tb2.1 tb2.2 cn2.1 cn2.2))))
          exact row_put (row_put P9.2.1 (by omega) (by omega) (pm_t (v := 1) (j := 8 + tT y T n (wn_ T n a)) (by omega) (by omega) (by omega) (by omega))) (by omega) (by omega) (pm_t (v := 3) (j := 24 + tT y T n (wn_ T n a)) (by omega) (by omega) (by omega) (by omega))
        · exact absurd S.2.2.1 (b01_n.mp c1)
      · have hG7 := W7.1.1
        have hG := hG7
        have W := W7
        have cc := cc7
        have hv79 := hv7
        have hu : (pLost T n (wn_ T n a) y).1 = nb_ T n (wn_ T n (wn_ T n (wn_ T n a))) := by unfold pLost; rw [iC_f (fun q => q mh), iC_f (fun q => q cc17), iC_t cc]
        refine s_istore_n dX9_lostLine_26 (by decide) rfl (L' := [_, _, _]) rfl ?_
        refine s_aload_n dX9_lostLine_27 rfl ?_
        refine s_callV (d' := d - 1) (bc' := 0) (bs' := 0) (as := []) dX9_lostLine_28 vf_X9_114 (dd_ (by omega) (by decide)) ⟨Nat.zero_le _, Nat.zero_le _⟩ rfl rfl (Nat.le_of_ble_eq_true rfl) kl_7 rfl io_196 ?_
        refine c_X9_isWrong hG7 ?_
        refine s_if_eq (tgt := 35) dX9_lostLine_31 (by decide) (by first | exact hG7.2 _ _ | exact hG.2 _ _ | exact b01_in _ | assumption | exact ⟨by omega, by omega⟩) (fun c2 => ?_) (fun c2 => ?_)
        · exact absurd (wr_ne W) (b01_0.mp c2)
        · have c2 := b01_n.mp c2
          exact s_return dX9_lostLine_34 rfl (k _ (lx_w W hu))
    · have hG5 := W5.1.1
      have hG := hG5
      have W := W5
      have cc : ¬ okW T n (wn_ T n (wn_ T n a)) 17 := fun q => cc5 ((iw_24 (j := 17) (by decide)).mpr q)
      have hu : (pLost T n (wn_ T n a) y).1 = nb_ T n (wn_ T n (wn_ T n a)) := by unfold pLost; rw [iC_f (fun q => q mh), iC_t cc]
      refine s_aload_n dX9_lostLine_18 rfl ?_
      refine s_iconst dX9_lostLine_19 ?_
      refine s_sipush dX9_lostLine_20 (by decide) ?_
      refine s_callV (d' := d - 1) (bc' := 0) (bs' := 0) (as := [_, _]) dX9_lostLine_23 vf_X9_229 (dd_ (by omega) (by decide)) ⟨Nat.zero_le _, Nat.zero_le _⟩ rfl rfl (Nat.le_of_ble_eq_true rfl) kl_7 rfl io_196 ?_
      refine kw_X9_number (by omega) W ?_
      refine s_istore_n dX9_lostLine_26 (by decide) rfl (L' := [_, _, _]) rfl ?_
      refine s_aload_n dX9_lostLine_27 rfl ?_
      refine s_callV (d' := d - 1) (bc' := 0) (bs' := 0) (as := []) dX9_lostLine_28 vf_X9_114 (dd_ (by omega) (by decide)) ⟨Nat.zero_le _, Nat.zero_le _⟩ rfl rfl (Nat.le_of_ble_eq_true rfl) kl_7 rfl io_196 ?_
      refine c_X9_isWrong hG5 ?_
      refine s_if_eq (tgt := 35) dX9_lostLine_31 (by decide) (by first | exact hG5.2 _ _ | exact hG.2 _ _ | exact b01_in _ | assumption | exact ⟨by omega, by omega⟩) (fun c3 => ?_) (fun c3 => ?_)
      · exact absurd (wr_ne W) (b01_0.mp c3)
      · have c3 := b01_n.mp c3
        exact s_return dX9_lostLine_34 rfl (k _ (lx_w W hu))
  · have hG3 := W3.1.1
    have hG := hG3
    have W := W3
    have cc := cc3
    have nmh : ¬ okH T n (wn_ T n a) y := fun q => cc ⟨q.1, fun e => absurd e (by decide), fun e => absurd e (by decide), fun _ => q.2⟩
    have hu : (pLost T n (wn_ T n a) y).1 = nb_ T n (wn_ T n a) := by unfold pLost; rw [iC_t nmh]
    refine s_istore_n dX9_lostLine_11 (by decide) rfl (L' := [_, _, _]) rfl ?_
    refine s_aload_n dX9_lostLine_12 rfl ?_
    refine s_ldcS (j := 17) (z := 1000 + ((24 + 17 : Nat) : Int)) dX9_lostLine_13 (by decide) rfl rfl (by decide) ?_
    refine s_callV (d' := d - 1) (bc' := 0) (bs' := 0) (as := [_]) dX9_lostLine_15 vf_X9_221 (dd_ (by omega) (by decide)) ⟨Nat.zero_le _, Nat.zero_le _⟩ rfl rfl (Nat.le_of_ble_eq_true rfl) kl_7 rfl io_196 ?_
    refine kw_X9_must (by omega) W (fun hhG10 WhG10 => ?_)
    have hG10 := WhG10.1.1
    have hG := hG10
    have W := WhG10
    refine s_aload_n dX9_lostLine_18 rfl ?_
    refine s_iconst dX9_lostLine_19 ?_
    refine s_sipush dX9_lostLine_20 (by decide) ?_
    refine s_callV (d' := d - 1) (bc' := 0) (bs' := 0) (as := [_, _]) dX9_lostLine_23 vf_X9_229 (dd_ (by omega) (by decide)) ⟨Nat.zero_le _, Nat.zero_le _⟩ rfl rfl (Nat.le_of_ble_eq_true rfl) kl_7 rfl io_196 ?_
    refine kw_X9_number (by omega) W ?_
    refine s_istore_n dX9_lostLine_26 (by decide) rfl (L' := [_, _, _]) rfl ?_
    refine s_aload_n dX9_lostLine_27 rfl ?_
    refine s_callV (d' := d - 1) (bc' := 0) (bs' := 0) (as := []) dX9_lostLine_28 vf_X9_114 (dd_ (by omega) (by decide)) ⟨Nat.zero_le _, Nat.zero_le _⟩ rfl rfl (Nat.le_of_ble_eq_true rfl) kl_7 rfl io_196 ?_
    refine c_X9_isWrong hG10 ?_
    refine s_if_eq (tgt := 35) dX9_lostLine_31 (by decide) (by first | exact hG10.2 _ _ | exact hG.2 _ _ | exact b01_in _ | assumption | exact ⟨by omega, by omega⟩) (fun c4 => ?_) (fun c4 => ?_)
    · exact absurd (wr_ne W) (b01_0.mp c4)
    · have c4 := b01_n.mp c4
      exact s_return dX9_lostLine_34 rfl (k _ (lx_w W hu))
set_option maxRecDepth 100000 in
set_option maxHeartbeats 4000000 in
theorem c_X9_soldLine  (hd : 9 ≤ d) (S : OK9 n T h a h) (P : LN_ y h) (cw : iw_ T (nb_ T n a) (wl__ T n a) (24 + 13)) (k : ∀ h1 : PH, LX_ n T h (pSold T n (wn_ T n a) y) h1 → Q.1 none nN h1) : Cl_ yX9_soldLine MX9_soldLine d bc bs [(2, 196)] nN h Q := by
  refine s_enter pn_X9 rfl (Nat.le_of_ble_eq_true rfl) (L := [(2, _), (9, 0), (9, 0), (9, 0)]) rfl ?_
  have hG := S.1.1
  have ab := ok_0 S
  have nb0 := nb_0 S
  have yc := ln_c P
  have wle : wl__ T n a = wn_ T n a - nb_ T n a := rfl
  have b56 := P.2.2.2.2.2.2.1.1.2.2.1
  refine s_aload_n dX9_soldLine_0 rfl ?_
  refine s_ldcS (j := 13) (z := 1000 + ((24 + 13 : Nat) : Int)) dX9_soldLine_1 (by decide) rfl rfl (by decide) ?_
  refine s_callV (d' := d - 1) (bc' := 0) (bs' := 0) (as := [_]) dX9_soldLine_3 vf_X9_221 (dd_ (by omega) (by decide)) ⟨Nat.zero_le _, Nat.zero_le _⟩ rfl rfl (Nat.le_of_ble_eq_true rfl) kl_7 rfl io_196 ?_
  refine c_X9_must (j := 24 + 13) (by decide) (by omega) S (fun cc1 h1 S1 e1 => ?_) (fun cc _ _ => absurd cw cc)
  have hG1 := S1.1.1
  have hG := hG1
  have S := S1
  have nb0 := nb_0 S
  refine s_aload_n dX9_soldLine_6 rfl ?_
  refine s_iconst dX9_soldLine_7 ?_
  refine s_callV (d' := d - 1) (bc' := 0) (bs' := 0) (as := [_]) dX9_soldLine_8 vf_X9_236 (dd_ (by omega) (by decide)) ⟨Nat.zero_le _, Nat.zero_le _⟩ rfl rfl (Nat.le_of_ble_eq_true rfl) kl_7 rfl io_196 ?_
  refine c3_X9_thingHere (by omega) S P (fun cc2 h2 S2 e2 => ?_) (fun cc3 h3 W3 => ?_)
  · have hG2 := S2.1.1
    have hG := hG2
    have S := S2
    have nb0 := nb_0 S
    have mh3 := cc2
    have mh : okH T n (wn_ T n a) y := ⟨mh3.1, mh3.2.2.2 rfl⟩
    have tb := tT_bd y T n (wn_ T n a)
    have tb2 : 0 ≤ tT y T n (wn_ T n a) ∧ tT y T n (wn_ T n a) < 8 := by have q := mh.1; omega
    refine s_istore_n dX9_soldLine_11 (by decide) rfl (L' := [_, _, _, _]) rfl ?_
    refine s_aload_n dX9_soldLine_12 rfl ?_
    refine s_iconst dX9_soldLine_13 ?_
    refine s_sipush dX9_soldLine_14 (by decide) ?_
    refine s_callV (d' := d - 1) (bc' := 0) (bs' := 0) (as := [_, _]) dX9_soldLine_17 vf_X9_229 (dd_ (by omega) (by decide)) ⟨Nat.zero_le _, Nat.zero_le _⟩ rfl rfl (Nat.le_of_ble_eq_true rfl) kl_7 rfl io_196 ?_
    refine c_X9_number (by omega) S ⟨by decide, by decide⟩ ⟨by decide, by decide⟩ (fun cc4 h4 S4 e4 m4 => ?_) (fun cc5 h5 v5 W5 hv5 => ?_)
    · have hG4 := S4.1.1
      have hG := hG4
      have S := S4
      have nb0 := nb_0 S
      have c1n := cc4
      have e18 := m4
      have c1nb := cc4.2
      refine s_istore_n dX9_soldLine_20 (by decide) rfl (L' := [_, _, _, _]) rfl ?_
      refine s_aload_n dX9_soldLine_21 rfl ?_
      refine s_ldcS (j := 14) (z := 1000 + ((24 + 14 : Nat) : Int)) dX9_soldLine_22 (by decide) rfl rfl (by decide) ?_
      refine s_callV (d' := d - 1) (bc' := 0) (bs' := 0) (as := [_]) dX9_soldLine_24 vf_X9_221 (dd_ (by omega) (by decide)) ⟨Nat.zero_le _, Nat.zero_le _⟩ rfl rfl (Nat.le_of_ble_eq_true rfl) kl_7 rfl io_196 ?_
      refine c_X9_must (j := 24 + 14) (by decide) (by omega) S (fun cc6 h6 S6 e6 => ?_) (fun cc7 h7 W7 => ?_)
      · have hG6 := S6.1.1
        have hG := hG6
        have S := S6
        have nb0 := nb_0 S
        have cc14 : okW T n (dn_ T n (wn_ T n (wn_ T n a))) 14 := (iw_24 (j := 14) (by decide)).mp cc6
        refine s_aload_n dX9_soldLine_27 rfl ?_
        refine s_iconst dX9_soldLine_28 ?_
        refine s_iload_n dX9_soldLine_29 rfl ?_
        refine s_callV (d' := d - 1) (bc' := 0) (bs' := 0) (as := [_, _]) dX9_soldLine_30 vf_X9_229 (dd_ (by omega) (by decide)) ⟨Nat.zero_le _, Nat.zero_le _⟩ rfl rfl (Nat.le_of_ble_eq_true rfl) kl_7 rfl io_196 ?_
        refine c_X9_number (by omega) S ⟨by decide, by decide⟩ ⟨by omega, by omega⟩ (fun cc8 h8 S8 e8 m8 => ?_) (fun cc9 h9 v9 W9 hv9 => ?_)
        · have hG8 := S8.1.1
          have hG := hG8
          have S := S8
          have nb0 := nb_0 S
          have c2n := cc8
          have e18 := m8
          have c2nb := cc8.2
          refine s_istore_n dX9_soldLine_33 (by decide) rfl (L' := [_, _, _, _]) rfl ?_
          refine s_aload_n dX9_soldLine_34 rfl ?_
          refine s_callV (d' := d - 1) (bc' := 0) (bs' := 0) (as := []) dX9_soldLine_35 vf_X9_114 (dd_ (by omega) (by decide)) ⟨Nat.zero_le _, Nat.zero_le _⟩ rfl rfl (Nat.le_of_ble_eq_true rfl) kl_7 rfl io_196 ?_
          refine c_X9_isWrong hG8 ?_
          refine s_if_ne (tgt := 65) dX9_soldLine_38 (by decide) (by first | exact hG8.2 _ _ | exact hG.2 _ _ | exact b01_in _ | assumption | exact ⟨by omega, by omega⟩) (fun c1 => ?_) (fun c1 => ?_)
          · exact absurd S.2.2.1 (b01_n.mp c1)
          · have c1 := b01_0.mp c1
            refine s_aload_n dX9_soldLine_41 rfl ?_
            refine s_getr dX9_soldLine_42 fl_X9_43 kl_7 (by decide) rfl io_196 (z := 22) rfl (rf_7_22 hG8.1 io_196) (rk_7_22 io_196).1 ?_
            refine s_bipush dX9_soldLine_45 (by decide) ?_
            have P9 := ln_aw P S.2.1
            have e56 := P9.2.1 56 (by omega) (by omega)
            rw [pm_h (by omega)] at e56
            refine s_iaload dX9_soldLine_47 (rk_7_22 io_196) (by omega) (by omega) ?_
            rw [e56]
            refine s_iload_n dX9_soldLine_48 rfl ?_
            refine s_iadd dX9_soldLine_49 ?_
            refine s_iload_n dX9_soldLine_50 rfl ?_
            refine s_isub dX9_soldLine_51 ?_
            refine s_ldc dX9_soldLine_52 kc_X9_240 ?_
            refine s_icmp_le (tgt := 65) dX9_soldLine_54 (by decide) (by first | exact hG8.2 _ _ | exact hG.2 _ _ | exact b01_in _ | assumption | exact ⟨by omega, by omega⟩) (by first | exact hG8.2 _ _ | exact hG.2 _ _ | exact b01_in _ | assumption | exact ⟨by omega, by omega⟩) (fun c2 => ?_) (fun c2 => ?_)
            · refine s_aload_n dX9_soldLine_65 rfl ?_
              refine s_callV (d' := d - 1) (bc' := 0) (bs' := 0) (as := []) dX9_soldLine_66 vf_X9_114 (dd_ (by omega) (by decide)) ⟨Nat.zero_le _, Nat.zero_le _⟩ rfl rfl (Nat.le_of_ble_eq_true rfl) kl_7 rfl io_196 ?_
              refine c_X9_isWrong hG8 ?_
              refine s_if_eq (tgt := 73) dX9_soldLine_69 (by decide) (by first | exact hG8.2 _ _ | exact hG.2 _ _ | exact b01_in _ | assumption | exact ⟨by omega, by omega⟩) (fun c3 => ?_) (fun c3 => ?_)
              · have c3 := b01_0.mp c3
                refine s_aload_n dX9_soldLine_73 rfl ?_
                refine s_getr dX9_soldLine_74 fl_X9_43 kl_7 (by decide) rfl io_196 (z := 22) rfl (rf_7_22 hG8.1 io_196) (rk_7_22 io_196).1 ?_
                refine s_bipush dX9_soldLine_77 (by decide) ?_
                refine s_dup2 dX9_soldLine_79 rfl rfl ?_
                refine s_iaload dX9_soldLine_80 (rk_7_22 io_196) (by omega) (by omega) ?_
                have P9 := ln_aw P S.2.1
                have e56b := P9.2.1 56 (by omega) (by omega)
                rw [pm_h (by omega)] at e56b
                rw [e56b]
                refine s_iload_n dX9_soldLine_81 rfl ?_
                refine s_iload_n dX9_soldLine_82 rfl ?_
                refine s_isub dX9_soldLine_83 ?_
                refine s_iadd dX9_soldLine_84 ?_
                refine s_iastoreG dX9_soldLine_85 (rk_7_22 io_196) (by omega) (by omega) hG8 (by first | exact hG8.2 _ _ | exact hG.2 _ _ | exact b01_in _ | assumption | exact ⟨by omega, by omega⟩) (fun hG10 => ?_)
                refine s_aload_n dX9_soldLine_86 rfl ?_
                refine s_getr dX9_soldLine_87 fl_X9_43 kl_7 (by decide) rfl io_196 (z := 22) rfl (rf_7_22 hG10.1 io_196) (rk_7_22 io_196).1 ?_
                refine s_iconst dX9_soldLine_90 ?_
                refine s_iconst dX9_soldLine_91 ?_
                refine s_iload_n dX9_soldLine_92 rfl ?_
                refine s_imul dX9_soldLine_93 ?_
                refine s_iadd dX9_soldLine_94 ?_
                refine s_iconst dX9_soldLine_95 ?_
                refine s_iadd dX9_soldLine_96 ?_
                refine s_iconst dX9_soldLine_97 ?_
                refine s_iastoreG dX9_soldLine_98 (rk_7_22 io_196) (by omega) (by omega) hG10 (by first | exact hG10.2 _ _ | exact hG.2 _ _ | exact b01_in _ | assumption | exact ⟨by omega, by omega⟩) (fun hG11 => ?_)
                refine s_aload_n dX9_soldLine_99 rfl ?_
                refine s_getr dX9_soldLine_100 fl_X9_43 kl_7 (by decide) rfl io_196 (z := 22) rfl (rf_7_22 hG11.1 io_196) (rk_7_22 io_196).1 ?_
                refine s_iconst dX9_soldLine_103 ?_
                refine s_iconst dX9_soldLine_104 ?_
                refine s_iload_n dX9_soldLine_105 rfl ?_
                refine s_imul dX9_soldLine_106 ?_
                refine s_iadd dX9_soldLine_107 ?_
                refine s_iconst dX9_soldLine_108 ?_
                refine s_iadd dX9_soldLine_109 ?_
                refine s_iload_n dX9_soldLine_110 rfl ?_
                refine s_iastoreG dX9_soldLine_111 (rk_7_22 io_196) (by omega) (by omega) hG11 (by first | exact hG11.2 _ _ | exact hG.2 _ _ | exact b01_in _ | assumption | exact ⟨by omega, by omega⟩) (fun hG12 => ?_)
                refine s_aload_n dX9_soldLine_112 rfl ?_
                refine s_getr dX9_soldLine_113 fl_X9_43 kl_7 (by decide) rfl io_196 (z := 22) rfl (rf_7_22 hG12.1 io_196) (rk_7_22 io_196).1 ?_
                refine s_iconst dX9_soldLine_116 ?_
                refine s_iconst dX9_soldLine_117 ?_
                refine s_iload_n dX9_soldLine_118 rfl ?_
                refine s_imul dX9_soldLine_119 ?_
                refine s_iadd dX9_soldLine_120 ?_
                refine s_iconst dX9_soldLine_121 ?_
                refine s_iadd dX9_soldLine_122 ?_
                refine s_iload_n dX9_soldLine_123 rfl ?_
                refine s_iastoreG dX9_soldLine_124 (rk_7_22 io_196) (by omega) (by omega) hG12 (by first | exact hG12.2 _ _ | exact hG.2 _ _ | exact b01_in _ | assumption | exact ⟨by omega, by omega⟩) (fun hG13 => ?_)
                have P9 := ln_aw P S.2.1
                have cc9 : y 1 56 + dv_ T n (wn_ T n (wn_ T n a)) - dv_ T n (wn_ T n (dn_ T n (wn_ T n (wn_ T n a)))) ≤ 99999 := by omega
                have tq : y 1 (8 + tT y T n (wn_ T n a)) = 0 := mh.2
                refine s_return dX9_soldLine_125 rfl (k _ (lx_o (b := 0) S hG13 (fun x k p q => by rw [hs_ne _ (by omega), hs_ne _ (by omega), hs_ne _ (by omega), hs_ne _ (by omega)]) (by unfold pSold; rw [iC_f (fun q => q mh), iC_f (fun q => q c1n), iC_f (fun q => q cc14), iC_f (fun q => q ⟨c2n, cc9⟩)]) (ln_row P9 (fun x k p q => by rw [hs_ne _ (by omega), hs_ne _ (by omega), hs_ne _ (by omega), hs_ne _ (by omega)]) ?_ (zf_sold (zf_z.mp P.2.2.2.2.2.2.1.1) tb2.1 tb2.2 (by omega) (by omega) (by omega) (by omega) (by omega)))))
                rw [← fsold_eq tb2.1 tb2.2]
                exact row_put (row_put (row_put (row_put P9.2.1 (by omega) (by omega) (pm_h (by omega))) (by omega) (by omega) (pm_t (v := 1) (j := 8 + tT y T n (wn_ T n a)) (by omega) (by omega) (by omega) (by omega))) (by omega) (by omega) (pm_t (v := 2) (j := 16 + tT y T n (wn_ T n a)) (by omega) (by omega) (by omega) (by omega))) (by omega) (by omega) (pm_t (v := 3) (j := 24 + tT y T n (wn_ T n a)) (by omega) (by omega) (by omega) (by omega))
              · exact absurd S.2.2.1 (b01_n.mp c3)
            · refine s_aload_n dX9_soldLine_57 rfl ?_
              refine s_aload_n dX9_soldLine_58 rfl ?_
              refine s_geti dX9_soldLine_59 fl_X9_147 kl_7 (by decide) rfl io_196 (z := 18) rfl ?_
              refine s_callV (d' := d - 1) (bc' := 0) (bs' := 0) (as := [_]) dX9_soldLine_62 vf_X9_137 (dd_ (by omega) (by decide)) ⟨Nat.zero_le _, Nat.zero_le _⟩ rfl rfl (Nat.le_of_ble_eq_true rfl) kl_7 rfl io_196 ?_
              rw [e18]
              refine c_X9_wrong hG8 ⟨by omega, by omega⟩ (fun h14 g14 f14 w14 => ?_)
              have hG14 := g14
              have hG := hG14
              rw [if_pos S.2.2.1] at w14
              have W := wr_of S g14 (fun x y c => f14 x y (by omega)) (f14 _ _ (by omega)) w14 (by omega) (by omega)
              have ncc : ¬ (y 1 56 + dv_ T n (wn_ T n (wn_ T n a)) - dv_ T n (wn_ T n (dn_ T n (wn_ T n (wn_ T n a)))) ≤ 99999) := by omega
              have hu : (pSold T n (wn_ T n a) y).1 = nb_ T n (wn_ T n (dn_ T n (wn_ T n (wn_ T n a)))) := by unfold pSold; rw [iC_f (fun q => q mh), iC_f (fun q => q c1n), iC_f (fun q => q cc14), iC_t (fun q => ncc q.2)]
              refine s_aload_n dX9_soldLine_65 rfl ?_
              refine s_callV (d' := d - 1) (bc' := 0) (bs' := 0) (as := []) dX9_soldLine_66 vf_X9_114 (dd_ (by omega) (by decide)) ⟨Nat.zero_le _, Nat.zero_le _⟩ rfl rfl (Nat.le_of_ble_eq_true rfl) kl_7 rfl io_196 ?_
              refine c_X9_isWrong hG14 ?_
              refine s_if_eq (tgt := 73) dX9_soldLine_69 (by decide) (by first | exact hG14.2 _ _ | exact hG.2 _ _ | exact b01_in _ | assumption | exact ⟨by omega, by omega⟩) (fun c4 => ?_) (fun c4 => ?_)
              · exact absurd (wr_ne W) (b01_0.mp c4)
              · have c4 := b01_n.mp c4
                exact s_return dX9_soldLine_72 rfl (k _ (lx_w W hu))
        · have hG9 := W9.1.1
          have hG := hG9
          have W := W9
          have cc := cc9
          have hv99 := hv9
          have hu : (pSold T n (wn_ T n a) y).1 = nb_ T n (wn_ T n (dn_ T n (wn_ T n (wn_ T n a)))) := by unfold pSold; rw [iC_f (fun q => q mh), iC_f (fun q => q c1n), iC_f (fun q => q cc14), iC_t (fun q => cc q.1)]
          refine s_istore_n dX9_soldLine_33 (by decide) rfl (L' := [_, _, _, _]) rfl ?_
          refine s_aload_n dX9_soldLine_34 rfl ?_
          refine s_callV (d' := d - 1) (bc' := 0) (bs' := 0) (as := []) dX9_soldLine_35 vf_X9_114 (dd_ (by omega) (by decide)) ⟨Nat.zero_le _, Nat.zero_le _⟩ rfl rfl (Nat.le_of_ble_eq_true rfl) kl_7 rfl io_196 ?_
          refine c_X9_isWrong hG9 ?_
          refine s_if_ne (tgt := 65) dX9_soldLine_38 (by decide) (by first | exact hG9.2 _ _ | exact hG.2 _ _ | exact b01_in _ | assumption | exact ⟨by omega, by omega⟩) (fun c5 => ?_) (fun c5 => ?_)
          · have c5 := b01_n.mp c5
            refine s_aload_n dX9_soldLine_65 rfl ?_
            refine s_callV (d' := d - 1) (bc' := 0) (bs' := 0) (as := []) dX9_soldLine_66 vf_X9_114 (dd_ (by omega) (by decide)) ⟨Nat.zero_le _, Nat.zero_le _⟩ rfl rfl (Nat.le_of_ble_eq_true rfl) kl_7 rfl io_196 ?_
            refine c_X9_isWrong hG9 ?_
            refine s_if_eq (tgt := 73) dX9_soldLine_69 (by decide) (by first | exact hG9.2 _ _ | exact hG.2 _ _ | exact b01_in _ | assumption | exact ⟨by omega, by omega⟩) (fun c6 => ?_) (fun c6 => ?_)
            · exact absurd (wr_ne W) (b01_0.mp c6)
            · have c6 := b01_n.mp c6
              exact s_return dX9_soldLine_72 rfl (k _ (lx_w W hu))
          · exact absurd (wr_ne W) (b01_0.mp c5)
      · have hG7 := W7.1.1
        have hG := hG7
        have W := W7
        have cc : ¬ okW T n (dn_ T n (wn_ T n (wn_ T n a))) 14 := fun q => cc7 ((iw_24 (j := 14) (by decide)).mpr q)
        have hu : (pSold T n (wn_ T n a) y).1 = nb_ T n (dn_ T n (wn_ T n (wn_ T n a))) := by unfold pSold; rw [iC_f (fun q => q mh), iC_f (fun q => q c1n), iC_t cc]
        refine s_aload_n dX9_soldLine_27 rfl ?_
        refine s_iconst dX9_soldLine_28 ?_
        refine s_iload_n dX9_soldLine_29 rfl ?_
        refine s_callV (d' := d - 1) (bc' := 0) (bs' := 0) (as := [_, _]) dX9_soldLine_30 vf_X9_229 (dd_ (by omega) (by decide)) ⟨Nat.zero_le _, Nat.zero_le _⟩ rfl rfl (Nat.le_of_ble_eq_true rfl) kl_7 rfl io_196 ?_
        refine kw_X9_number (by omega) W ?_
        refine s_istore_n dX9_soldLine_33 (by decide) rfl (L' := [_, _, _, _]) rfl ?_
        refine s_aload_n dX9_soldLine_34 rfl ?_
        refine s_callV (d' := d - 1) (bc' := 0) (bs' := 0) (as := []) dX9_soldLine_35 vf_X9_114 (dd_ (by omega) (by decide)) ⟨Nat.zero_le _, Nat.zero_le _⟩ rfl rfl (Nat.le_of_ble_eq_true rfl) kl_7 rfl io_196 ?_
        refine c_X9_isWrong hG7 ?_
        refine s_if_ne (tgt := 65) dX9_soldLine_38 (by decide) (by first | exact hG7.2 _ _ | exact hG.2 _ _ | exact b01_in _ | assumption | exact ⟨by omega, by omega⟩) (fun c7 => ?_) (fun c7 => ?_)
        · have c7 := b01_n.mp c7
          refine s_aload_n dX9_soldLine_65 rfl ?_
          refine s_callV (d' := d - 1) (bc' := 0) (bs' := 0) (as := []) dX9_soldLine_66 vf_X9_114 (dd_ (by omega) (by decide)) ⟨Nat.zero_le _, Nat.zero_le _⟩ rfl rfl (Nat.le_of_ble_eq_true rfl) kl_7 rfl io_196 ?_
          refine c_X9_isWrong hG7 ?_
          refine s_if_eq (tgt := 73) dX9_soldLine_69 (by decide) (by first | exact hG7.2 _ _ | exact hG.2 _ _ | exact b01_in _ | assumption | exact ⟨by omega, by omega⟩) (fun c8 => ?_) (fun c8 => ?_)
          · exact absurd (wr_ne W) (b01_0.mp c8)
          · have c8 := b01_n.mp c8
            exact s_return dX9_soldLine_72 rfl (k _ (lx_w W hu))
        · exact absurd (wr_ne W) (b01_0.mp c7)
    · have hG5 := W5.1.1
      have hG := hG5
      have W := W5
      have cc := cc5
      have hv59 := hv5
      have hu : (pSold T n (wn_ T n a) y).1 = nb_ T n (wn_ T n (wn_ T n a)) := by unfold pSold; rw [iC_f (fun q => q mh), iC_t cc]
      refine s_istore_n dX9_soldLine_20 (by decide) rfl (L' := [_, _, _, _]) rfl ?_
      refine s_aload_n dX9_soldLine_21 rfl ?_
      refine s_ldcS (j := 14) (z := 1000 + ((24 + 14 : Nat) : Int)) dX9_soldLine_22 (by decide) rfl rfl (by decide) ?_
      refine s_callV (d' := d - 1) (bc' := 0) (bs' := 0) (as := [_]) dX9_soldLine_24 vf_X9_221 (dd_ (by omega) (by decide)) ⟨Nat.zero_le _, Nat.zero_le _⟩ rfl rfl (Nat.le_of_ble_eq_true rfl) kl_7 rfl io_196 ?_
      refine kw_X9_must (by omega) W (fun hhG15 WhG15 => ?_)
      have hG15 := WhG15.1.1
      have hG := hG15
      have W := WhG15
      refine s_aload_n dX9_soldLine_27 rfl ?_
      refine s_iconst dX9_soldLine_28 ?_
      refine s_iload_n dX9_soldLine_29 rfl ?_
      refine s_callV (d' := d - 1) (bc' := 0) (bs' := 0) (as := [_, _]) dX9_soldLine_30 vf_X9_229 (dd_ (by omega) (by decide)) ⟨Nat.zero_le _, Nat.zero_le _⟩ rfl rfl (Nat.le_of_ble_eq_true rfl) kl_7 rfl io_196 ?_
      refine kw_X9_number (by omega) W ?_
      refine s_istore_n dX9_soldLine_33 (by decide) rfl (L' := [_, _, _, _]) rfl ?_
      refine s_aload_n dX9_soldLine_34 rfl ?_
      refine s_callV (d' := d - 1) (bc' := 0) (bs' := 0) (as := []) dX9_soldLine_35 vf_X9_114 (dd_ (by omega) (by decide)) ⟨Nat.zero_le _, Nat.zero_le _⟩ rfl rfl (Nat.le_of_ble_eq_true rfl) kl_7 rfl io_196 ?_
      refine c_X9_isWrong hG15 ?_
      refine s_if_ne (tgt := 65) dX9_soldLine_38 (by decide) (by first | exact hG15.2 _ _ | exact hG.2 _ _ | exact b01_in _ | assumption | exact ⟨by omega, by omega⟩) (fun c9 => ?_) (fun c9 => ?_)
      · have c9 := b01_n.mp c9
        refine s_aload_n dX9_soldLine_65 rfl ?_
        refine s_callV (d' := d - 1) (bc' := 0) (bs' := 0) (as := []) dX9_soldLine_66 vf_X9_114 (dd_ (by omega) (by decide)) ⟨Nat.zero_le _, Nat.zero_le _⟩ rfl rfl (Nat.le_of_ble_eq_true rfl) kl_7 rfl io_196 ?_
        refine c_X9_isWrong hG15 ?_
        refine s_if_eq (tgt := 73) dX9_soldLine_69 (by decide) (by first | exact hG15.2 _ _ | exact hG.2 _ _ | exact b01_in _ | assumption | exact ⟨by omega, by omega⟩) (fun c10 => ?_) (fun c10 => ?_)
        · exact absurd (wr_ne W) (b01_0.mp c10)
        · have c10 := b01_n.mp c10
          exact s_return dX9_soldLine_72 rfl (k _ (lx_w W hu))
      · exact absurd (wr_ne W) (b01_0.mp c9)
  · have hG3 := W3.1.1
    have hG := hG3
    have W := W3
    have cc := cc3
    have nmh : ¬ okH T n (wn_ T n a) y := fun q => cc ⟨q.1, fun e => absurd e (by decide), fun e => absurd e (by decide), fun _ => q.2⟩
    have hu : (pSold T n (wn_ T n a) y).1 = nb_ T n (wn_ T n a) := by unfold pSold; rw [iC_t nmh]
    refine s_istore_n dX9_soldLine_11 (by decide) rfl (L' := [_, _, _, _]) rfl ?_
    refine s_aload_n dX9_soldLine_12 rfl ?_
    refine s_iconst dX9_soldLine_13 ?_
    refine s_sipush dX9_soldLine_14 (by decide) ?_
    refine s_callV (d' := d - 1) (bc' := 0) (bs' := 0) (as := [_, _]) dX9_soldLine_17 vf_X9_229 (dd_ (by omega) (by decide)) ⟨Nat.zero_le _, Nat.zero_le _⟩ rfl rfl (Nat.le_of_ble_eq_true rfl) kl_7 rfl io_196 ?_
    refine kw_X9_number (by omega) W ?_
    refine s_istore_n dX9_soldLine_20 (by decide) rfl (L' := [_, _, _, _]) rfl ?_
    refine s_aload_n dX9_soldLine_21 rfl ?_
    refine s_ldcS (j := 14) (z := 1000 + ((24 + 14 : Nat) : Int)) dX9_soldLine_22 (by decide) rfl rfl (by decide) ?_
    refine s_callV (d' := d - 1) (bc' := 0) (bs' := 0) (as := [_]) dX9_soldLine_24 vf_X9_221 (dd_ (by omega) (by decide)) ⟨Nat.zero_le _, Nat.zero_le _⟩ rfl rfl (Nat.le_of_ble_eq_true rfl) kl_7 rfl io_196 ?_
    refine kw_X9_must (by omega) W (fun hhG16 WhG16 => ?_)
    have hG16 := WhG16.1.1
    have hG := hG16
    have W := WhG16
    refine s_aload_n dX9_soldLine_27 rfl ?_
    refine s_iconst dX9_soldLine_28 ?_
    refine s_iload_n dX9_soldLine_29 rfl ?_
    refine s_callV (d' := d - 1) (bc' := 0) (bs' := 0) (as := [_, _]) dX9_soldLine_30 vf_X9_229 (dd_ (by omega) (by decide)) ⟨Nat.zero_le _, Nat.zero_le _⟩ rfl rfl (Nat.le_of_ble_eq_true rfl) kl_7 rfl io_196 ?_
    refine kw_X9_number (by omega) W ?_
    refine s_istore_n dX9_soldLine_33 (by decide) rfl (L' := [_, _, _, _]) rfl ?_
    refine s_aload_n dX9_soldLine_34 rfl ?_
    refine s_callV (d' := d - 1) (bc' := 0) (bs' := 0) (as := []) dX9_soldLine_35 vf_X9_114 (dd_ (by omega) (by decide)) ⟨Nat.zero_le _, Nat.zero_le _⟩ rfl rfl (Nat.le_of_ble_eq_true rfl) kl_7 rfl io_196 ?_
    refine c_X9_isWrong hG16 ?_
    refine s_if_ne (tgt := 65) dX9_soldLine_38 (by decide) (by first | exact hG16.2 _ _ | exact hG.2 _ _ | exact b01_in _ | assumption | exact ⟨by omega, by omega⟩) (fun c11 => ?_) (fun c11 => ?_)
    · have c11 := b01_n.mp c11
      refine s_aload_n dX9_soldLine_65 rfl ?_
      refine s_callV (d' := d - 1) (bc' := 0) (bs' := 0) (as := []) dX9_soldLine_66 vf_X9_114 (dd_ (by omega) (by decide)) ⟨Nat.zero_le _, Nat.zero_le _⟩ rfl rfl (Nat.le_of_ble_eq_true rfl) kl_7 rfl io_196 ?_
      refine c_X9_isWrong hG16 ?_
      refine s_if_eq (tgt := 73) dX9_soldLine_69 (by decide) (by first | exact hG16.2 _ _ | exact hG.2 _ _ | exact b01_in _ | assumption | exact ⟨by omega, by omega⟩) (fun c12 => ?_) (fun c12 => ?_)
      · exact absurd (wr_ne W) (b01_0.mp c12)
      · have c12 := b01_n.mp c12
        exact s_return dX9_soldLine_72 rfl (k _ (lx_w W hu))
    · exact absurd (wr_ne W) (b01_0.mp c11)
end X9S
