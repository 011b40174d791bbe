/-! WillHouse$Reader: words, names, ranks, ends taken off the text -/
section X4J
variable {h0 h y : PH} {v n m a s : Int} {T : Int → Int}
theorem ft_of {p l r : Int} (E : EV_ h0 v n T) (R : RS_ h0 v n m a s y h) (p0 : 0 ≤ p) (l0 : 0 ≤ l) (pl : p + l ≤ n) (nf : nf_ h (v + 1) (2 + -1) p l r) : r = ft_ y T p l := by
  have hn := E.2.1
  have c0 := R.2.2.1.1.1
  have hq : ∀ i : Int, 0 ≤ i → i < y 0 0 → (nq_ h (v + 1) (2 + -1) p l i ↔ nt_ y T p l i) := fun i i0 i1 => by
    have c := R.2.2.2.1.1 i i0 i1
    unfold nq_ nt_
    rw [show v + 1 + 1 = v + 2 by omega, c.1]
    constructor
    · rintro ⟨e, f⟩
      refine ⟨e, fun k k0 k1 => ?_⟩
      have q := f k k0 k1
      rw [show v + 1 + 2 + 1 + i = v + 4 + i by omega, c.2 k k0 (by omega), (rs_T E R (by omega) (by omega)).1] at q
      exact q
    · rintro ⟨e, f⟩
      refine ⟨e, fun k k0 k1 => ?_⟩
      rw [show v + 1 + 2 + 1 + i = v + 4 + i by omega, c.2 k k0 (by omega), (rs_T E R (by omega) (by omega)).1]
      exact f k k0 k1
  have i2 := R.2.2.2.2.2.2.1.1
  rcases nf with ⟨e, f⟩ | ⟨r0, r1, q, f⟩
  · rw [e]
    exact (fd_no _ _ (fun j j0 j1 z => f j j0 (by omega) ((hq j j0 (by omega)).mpr z))).symm
  · exact (fd_at _ _ r r0 (by omega) ((hq r r0 (by omega)).mp q) (fun j j0 j1 z => f j j0 j1 ((hq j j0 (by omega)).mpr z))).symm
theorem fp_of {p l r : Int} (E : EV_ h0 v n T) (R : RS_ h0 v n m a s y h) (p0 : 0 ≤ p) (l0 : 0 ≤ l) (pl : p + l ≤ n) (nf : nf_ h (v + 14) (2 + -1) p l r) : r = fp_ y T p l := by
  have hn := E.2.1
  have c0 := R.2.2.1.1.2.1
  have hq : ∀ i : Int, 0 ≤ i → i < y 0 1 → (nq_ h (v + 14) (2 + -1) p l i ↔ np_ y T p l i) := fun i i0 i1 => by
    have c := R.2.2.2.1.2 i i0 i1
    unfold nq_ np_
    rw [show v + 14 + 1 = v + 15 by omega, c.1]
    constructor
    · rintro ⟨e, f⟩
      refine ⟨e, fun k k0 k1 => ?_⟩
      have q := f k k0 k1
      rw [show v + 14 + 2 + 1 + i = v + 17 + i by omega, c.2 k k0 (by omega), (rs_T E R (by omega) (by omega)).1] at q
      exact q
    · rintro ⟨e, f⟩
      refine ⟨e, fun k k0 k1 => ?_⟩
      rw [show v + 14 + 2 + 1 + i = v + 17 + i by omega, c.2 k k0 (by omega), (rs_T E R (by omega) (by omega)).1]
      exact f k k0 k1
  have i2 := R.2.2.2.2.2.2.1.2.1
  rcases nf with ⟨e, f⟩ | ⟨r0, r1, q, f⟩
  · rw [e]
    exact (fd_no _ _ (fun j j0 j1 z => f j j0 (by omega) ((hq j j0 (by omega)).mpr z))).symm
  · exact (fd_at _ _ r r0 (by omega) ((hq r r0 (by omega)).mp q) (fun j j0 j1 z => f j j0 j1 ((hq j j0 (by omega)).mpr z))).symm
theorem rs_lT (R : RS_ h0 v n m a s y h) : ∀ i : Int, 0 ≤ i → i < h (v + 1) 1 → h (v + 1 + 1) i ≤ 6 := fun i i0 i1 => by
  have c0 := R.2.2.1.1.1
  have c := R.2.2.2.1.1 i i0 (by omega)
  have q := (R.2.2.2.2.2.2.2.2.2.2.1 i i0 (by omega)).1
  rw [show v + 1 + 1 = v + 2 by omega, c.1]
  omega
theorem rs_lP (R : RS_ h0 v n m a s y h) : ∀ i : Int, 0 ≤ i → i < h (v + 14) 1 → h (v + 14 + 1) i ≤ 6 := fun i i0 i1 => by
  have c0 := R.2.2.1.1.2.1
  have c := R.2.2.2.1.2 i i0 (by omega)
  have q := (R.2.2.2.2.2.2.2.2.2.2.2 i i0 (by omega)).1
  rw [show v + 14 + 1 = v + 15 by omega, c.1]
  omega
theorem tT_no (I : YI_ m y) (hc : ¬ nb_ T n a < wn_ T n a) (h : a ≤ n) : tT y T n a = -1 := by
  have b := wn_bd (T := T) h
  refine fd_no _ _ (fun j j0 j1 z => ?_)
  have q := (I.2.2.2.2.2.1 j j0 (by have := I.2.1.1.1; omega)).1
  have e := z.1
  unfold wl__ at e
  omega
theorem tP_no (I : YI_ m y) (hc : ¬ nb_ T n a < wn_ T n a) (h : a ≤ n) : tP y T n a = -1 := by
  have b := wn_bd (T := T) h
  refine fd_no _ _ (fun j j0 j1 z => ?_)
  have q := (I.2.2.2.2.2.2 j j0 (by have := I.2.1.2.1.1; omega)).1
  have e := z.1
  unfold wl__ at e
  omega
theorem tT_bd (y : PH) (T : Int → Int) (n a : Int) : tT y T n a = -1 ∨ (0 ≤ tT y T n a ∧ tT y T n a < y 0 0) := by
  rcases fd_bd (P := nt_ y T (nb_ T n a) (wl__ T n a)) (y 0 0).toNat 0 with e | e
  · exact Or.inl e
  · refine Or.inr ⟨e.1, ?_⟩
    show fd_ _ _ _ < _
    have := e.2.1
    have := e.1
    omega
theorem tP_bd (y : PH) (T : Int → Int) (n a : Int) : tP y T n a = -1 ∨ (0 ≤ tP y T n a ∧ tP y T n a < y 0 1) := by
  rcases fd_bd (P := np_ y T (nb_ T n a) (wl__ T n a)) (y 0 1).toNat 0 with e | e
  · exact Or.inl e
  · refine Or.inr ⟨e.1, ?_⟩
    show fd_ _ _ _ < _
    have := e.2.1
    have := e.1
    omega
theorem rs_addT {p l p' l' : Int} (E : EV_ h0 v n T) (R : RS_ h0 v n m a s y h) (t8 : y 0 0 < 8) (p0 : 0 ≤ p) (l1 : 1 ≤ l) (l6 : l ≤ 6) (pl : p + l ≤ n) (hT : ∀ k : Int, 0 ≤ k → k < l → 97 ≤ T (p + k) ∧ T (p + k) ≤ 122) (ep : p' = p) (el : l' = l) : RS_ h0 v n m a s (ynt y T p l) (hs_ (hs_ (cp_ h (2 + -1) p' (v + 1 + 2 + 1 + y 0 0) 0 l') (v + 1 + 1) (y 0 0) l') (v + 1) 1 (y 0 0 + 1)) := by
  subst ep
  subst el
  have W := ev_w E
  have hn := E.2.1
  have i2 := R.2.2.2.2.2.2.1.1
  have nl := (nl_w W).1
  have g1 := g_cp (a := 2 + -1) (sp := p') (dp := 0) (n := l') R.1.1 (rx_2_2 (rk_5_0 W) (i := y 0 0) i2.1 (by rw [nl]; exact t8)) (by decide)
  have g2 := g_putA (k := y 0 0) (v := l') g1 (rk_2_0 (rk_5_0 W)) (by decide) ⟨by omega, by omega⟩
  have g3 := g_putO (v := y 0 0 + 1) (z := 1) 1 g2 (rk_5_0 W) (by decide +kernel) rfl ⟨by omega, by omega⟩
  refine rs_nt E.1 R t8 g3 l1 l6 hT (fun x k a b c => ?_) (hs_eq _ _ _ _) ?_ (fun k k0 k1 => ?_)
  · rw [hs_ne _ (by omega), hs_ne _ (by omega), cp_ne (by omega)]
  · rw [hs_ne _ (by omega), show v + 1 + 1 = v + 2 by omega, hs_eq]
  · rw [hs_ne _ (by omega), hs_ne _ (by omega), show v + 1 + 2 + 1 + y 0 0 = v + 4 + y 0 0 by omega, cp_in k0 (by omega), show p' + (k - 0) = p' + k by omega]
    exact (rs_T E R (by omega) (by omega)).1
theorem rs_addP {p l p' l' : Int} (E : EV_ h0 v n T) (R : RS_ h0 v n m a s y h) (t8 : y 0 1 < 12) (p0 : 0 ≤ p) (l1 : 1 ≤ l) (l6 : l ≤ 6) (pl : p + l ≤ n) (hT : ∀ k : Int, 0 ≤ k → k < l → 97 ≤ T (p + k) ∧ T (p + k) ≤ 122) (ep : p' = p) (el : l' = l) : RS_ h0 v n m a s (ynp y T p l) (hs_ (hs_ (cp_ h (2 + -1) p' (v + 14 + 2 + 1 + y 0 1) 0 l') (v + 14 + 1) (y 0 1) l') (v + 14) 1 (y 0 1 + 1)) := by
  subst ep
  subst el
  have W := ev_w E
  have hn := E.2.1
  have i2 := R.2.2.2.2.2.2.1.2.1
  have nl := (nl_w W).2
  have g1 := g_cp (a := 2 + -1) (sp := p') (dp := 0) (n := l') R.1.1 (rx_2_2 (rk_5_3 W) (i := y 0 1) i2.1 (by rw [nl]; exact t8)) (by decide)
  have g2 := g_putA (k := y 0 1) (v := l') g1 (rk_2_0 (rk_5_3 W)) (by decide) ⟨by omega, by omega⟩
  have g3 := g_putO (v := y 0 1 + 1) (z := 1) 1 g2 (rk_5_3 W) (by decide +kernel) rfl ⟨by omega, by omega⟩
  refine rs_np E.1 R t8 g3 l1 l6 hT (fun x k a b c => ?_) (hs_eq _ _ _ _) ?_ (fun k k0 k1 => ?_)
  · rw [hs_ne _ (by omega), hs_ne _ (by omega), cp_ne (by omega)]
  · rw [hs_ne _ (by omega), show v + 14 + 1 = v + 15 by omega, hs_eq]
  · rw [hs_ne _ (by omega), hs_ne _ (by omega), show v + 14 + 2 + 1 + y 0 1 = v + 17 + y 0 1 by omega, cp_in k0 (by omega), show p' + (k - 0) = p' + k by omega]
    exact (rs_T E R (by omega) (by omega)).1
theorem wn_lt {a : Int} (h : a ≤ n) : nb_ T n a < wn_ T n a ↔ nb_ T n a < n ∧ 97 ≤ T (nb_ T n a) ∧ T (nb_ T n a) ≤ 122 := by
  have b := nb_bd (T := T) h
  constructor
  · intro q
    have b2 := we_bd (T := T) b.2
    unfold wn_ at q
    exact ⟨by omega, we_le (Int.le_refl _) q⟩
  · intro q
    have b2 := we_bd (T := T) (n := n) (a := nb_ T n a + 1) (by omega)
    unfold wn_
    rw [we_up q.1 q.2]
    omega
theorem wn_nb {a : Int} (h : a ≤ n) : wn_ T n (nb_ T n a) = wn_ T n a := by
  unfold wn_
  rw [nb_nb h]
theorem okW_nb {a : Int} {j : Nat} (h : a ≤ n) : okW T n (nb_ T n a) j ↔ okW T n a j := by
  unfold okW wl__
  rw [wn_nb h, nb_nb h]
end X4J
section X4B
variable {d bc bs : Nat} {Q : PQ} {h0 h y : PH} {v n m a s : Int} {T : Int → Int}
set_option maxRecDepth 100000 in
set_option maxHeartbeats 4000000 in
theorem c_X4_takeNewNameT  (hd : 9 ≤ d) (t8 : y 0 0 < 8) (hb : ¬ (okU T n a ∧ tT y T n a = -1) → 1 ≤ bc ∧ 6 ≤ bs) (E : EV_ h0 v n T) (RhG : RS_ h0 v n m a s y h) (a0 : 0 ≤ a) (a1 : a ≤ n) (k : okU T n a ∧ tT y T n a = -1 → ∀ h' : PH, RS_ h0 v n m (wn_ T n a) (nb_ T n a) (ynt y T (nb_ T n a) (wl__ T n a)) h' → Q.1 (some (0, y 0 0)) nN h') (kx : ¬ (okU T n a ∧ tT y T n a = -1) → ∀ h' : PH, RX_ h0 v (nb_ T n a) h' → Q.2 IAE nN h') : Cl_ yX4_takeNewName MX4_takeNewName d bc bs [(2, 2), (2, v + 1)] nN h Q := by
  refine s_enter pn_X4 rfl (Nat.le_of_ble_eq_true rfl) (L := [(2, _), (2, _), (9, 0), (9, 0)]) rfl ?_
  have hG := RhG.1.1
  have dhG := RhG.2.1
  have phG := RhG.2.2.1.1
  have hn := E.2.1
  have W := ev_w E
  have ewl : wl__ T n a = wn_ T n a - nb_ T n a := rfl
  have bd := wn_bd (T := T) a1
  have wl := wi_le (T := T) (s := nb_ T n a) (l := wn_ T n a - nb_ T n a)
  have i2 := RhG.2.2.2.2.2.2.1.1
  refine s_aload_n dX4_takeNewName_0 rfl ?_
  
  refine s_callP (as := []) (nb_ T n a < wn_ T n a) (fun q => hb (fun z => q (by have := z.1.1; unfold wl__ at this; omega))) dX4_takeNewName_1 vf_X4_46 (dd_ (by omega) (by decide)) rfl rfl (Nat.le_of_ble_eq_true rfl) kl_3 rfl io_2 (fun b1 b2 Q1 hb1 k1 kx1 => ?_)
  refine c_X4_takeWord (by omega) (fun q => hb1 q) E RhG a0 a1 (fun okhG1 hhG1 RhG1 => k1 _ _ _ okhG1 ?_) (fun q h' X => kx1 _ _ _ q (kx (fun z => q (by have := z.1.1; unfold wl__ at this; omega)) h' X))
  have hG1 := RhG1.1.1
  have dhG1 := RhG1.2.1
  have phG1 := RhG1.2.2.1.1
  refine s_aload_n dX4_takeNewName_4 rfl ?_
  refine s_geti dX4_takeNewName_5 fl_X4_36 kl_3 (by decide) rfl io_2 (z := 5) rfl ?_
  refine s_aload_n dX4_takeNewName_8 rfl ?_
  refine s_geti dX4_takeNewName_9 fl_X4_105 kl_3 (by decide) rfl io_2 (z := 6) rfl ?_
  refine s_isub dX4_takeNewName_12 ?_
  refine s_istore_n dX4_takeNewName_13 (by decide) rfl (L' := [_, _, _, _]) rfl ?_
  refine s_iload_n dX4_takeNewName_14 rfl ?_
  refine s_bipush dX4_takeNewName_15 (by decide) ?_
  refine s_icmp_gt (tgt := 34) dX4_takeNewName_17 (by decide) (by first | exact hG1.2 _ _ | exact hG.2 _ _ | exact b01_in _ | assumption | exact ⟨by omega, by omega⟩) (by first | exact hG1.2 _ _ | exact hG.2 _ _ | exact b01_in _ | assumption | exact ⟨by omega, by omega⟩) (fun c1 => ?_) (fun c1 => ?_)
  · refine s_iconst dX4_takeNewName_34 ?_
    refine s_istore_n dX4_takeNewName_35 (by decide) rfl (L' := [_, _, _, _]) rfl ?_
    refine s_aload_n dX4_takeNewName_36 rfl ?_
    refine s_iload_n dX4_takeNewName_37 rfl ?_
    refine s_if_eq (tgt := 62) dX4_takeNewName_38 (by decide) (by first | exact hG1.2 _ _ | exact hG.2 _ _ | exact b01_in _ | assumption | exact ⟨by omega, by omega⟩) (fun c2 => ?_) (fun c2 => ?_)
    · refine s_iconst dX4_takeNewName_62 ?_
      refine s_aload_n dX4_takeNewName_63 rfl ?_
      refine s_geti dX4_takeNewName_64 fl_X4_105 kl_3 (by decide) rfl io_2 (z := 6) rfl ?_
      
      refine s_callP (as := [_, _]) (okU T n a ∧ tT y T n a = -1) (fun q => hb q) dX4_takeNewName_67 vf_X4_108 (dd_ (by omega) (by decide)) rfl rfl (Nat.le_of_ble_eq_true rfl) kl_3 rfl io_2 (fun b1 b2 Q1 hb1 k1 kx1 => ?_)
      exact c_X4_demand (by omega) (fun q => hb1 (fun z => by have z1 := z.1.1; have z2 := z.1.2.1; have z3 := z.1.2.2; have z4 := z.2; unfold wl__ at z1 z2 z3; omega)) RhG1 (hG1.2 _ _) (Or.inl rfl) (f := nb_ T n a) (by omega) (by omega) (fun q => absurd rfl q) (fun q h' X => kx1 _ _ _ (fun z => by have z1 := z.1.1; have z2 := z.1.2.1; have z3 := z.1.2.2; have z4 := z.2; unfold wl__ at z1 z2 z3; omega) (kx (fun z => by have z1 := z.1.1; have z2 := z.1.2.1; have z3 := z.1.2.2; have z4 := z.2; unfold wl__ at z1 z2 z3; omega) h' X))
    · exact absurd rfl c2
  · refine s_aload_n dX4_takeNewName_20 rfl ?_
    refine s_callV (d' := d - 1) (bc' := 0) (bs' := 0) (as := []) dX4_takeNewName_21 vf_X4_55 (dd_ (by omega) (by decide)) ⟨Nat.zero_le _, Nat.zero_le _⟩ rfl rfl (Nat.le_of_ble_eq_true rfl) kl_3 rfl io_2 ?_
    refine c_X4_takenWord (by omega) E RhG1 (by omega) (by omega) (by omega) ?_
    refine s_getsr dX4_takeNewName_24 (C := "WillHouse$Word") (nm := "OTHER") (ds := "LWillHouse$Word;") (ref := "") (z := 1223) (by decide +kernel) fl_X4_207 ?_
    refine s_wcmp_ne (tgt := 34) dX4_takeNewName_27 (by decide) (i := wi_ T (nb_ T n a) (wn_ T n a - nb_ T n a)) (j := 23) (by omega) (by decide) rfl (by decide) (fun c3 => ?_) (fun c3 => ?_)
    · refine s_iconst dX4_takeNewName_34 ?_
      refine s_istore_n dX4_takeNewName_35 (by decide) rfl (L' := [_, _, _, _]) rfl ?_
      refine s_aload_n dX4_takeNewName_36 rfl ?_
      refine s_iload_n dX4_takeNewName_37 rfl ?_
      refine s_if_eq (tgt := 62) dX4_takeNewName_38 (by decide) (by first | exact hG1.2 _ _ | exact hG.2 _ _ | exact b01_in _ | assumption | exact ⟨by omega, by omega⟩) (fun c4 => ?_) (fun c4 => ?_)
      · refine s_iconst dX4_takeNewName_62 ?_
        refine s_aload_n dX4_takeNewName_63 rfl ?_
        refine s_geti dX4_takeNewName_64 fl_X4_105 kl_3 (by decide) rfl io_2 (z := 6) rfl ?_
        
        refine s_callP (as := [_, _]) (okU T n a ∧ tT y T n a = -1) (fun q => hb q) dX4_takeNewName_67 vf_X4_108 (dd_ (by omega) (by decide)) rfl rfl (Nat.le_of_ble_eq_true rfl) kl_3 rfl io_2 (fun b1 b2 Q1 hb1 k1 kx1 => ?_)
        exact c_X4_demand (by omega) (fun q => hb1 (fun z => by have z1 := z.1.1; have z2 := z.1.2.1; have z3 := z.1.2.2; have z4 := z.2; unfold wl__ at z1 z2 z3; omega)) RhG1 (hG1.2 _ _) (Or.inl rfl) (f := nb_ T n a) (by omega) (by omega) (fun q => absurd rfl q) (fun q h' X => kx1 _ _ _ (fun z => by have z1 := z.1.1; have z2 := z.1.2.1; have z3 := z.1.2.2; have z4 := z.2; unfold wl__ at z1 z2 z3; omega) (kx (fun z => by have z1 := z.1.1; have z2 := z.1.2.1; have z3 := z.1.2.2; have z4 := z.2; unfold wl__ at z1 z2 z3; omega) h' X))
      · exact absurd rfl c4
    · refine s_iconst dX4_takeNewName_30 ?_
      refine s_goto (tgt := 35) dX4_takeNewName_31 (by decide) ?_
      refine s_istore_n dX4_takeNewName_35 (by decide) rfl (L' := [_, _, _, _]) rfl ?_
      refine s_aload_n dX4_takeNewName_36 rfl ?_
      refine s_iload_n dX4_takeNewName_37 rfl ?_
      refine s_if_eq (tgt := 62) dX4_takeNewName_38 (by decide) (by first | exact hG1.2 _ _ | exact hG.2 _ _ | exact b01_in _ | assumption | exact ⟨by omega, by omega⟩) (fun c5 => ?_) (fun c5 => ?_)
      · exact absurd c5 (by decide)
      · refine s_aload_n dX4_takeNewName_41 rfl ?_
        refine s_aload_n dX4_takeNewName_42 rfl ?_
        refine s_getr dX4_takeNewName_43 fl_X4_29 kl_3 (by decide) rfl io_2 (z := 3) rfl (rf_3_3 hG1.1 io_2) (rk_3_3 io_2).1 ?_
        refine s_aload_n dX4_takeNewName_46 rfl ?_
        refine s_geti dX4_takeNewName_47 fl_X4_105 kl_3 (by decide) rfl io_2 (z := 6) rfl ?_
        refine s_iload_n dX4_takeNewName_50 rfl ?_
        refine s_callV (d' := d - 1) (bc' := 0) (bs' := 0) (as := [_, _, _]) dX4_takeNewName_51 vf_X4_210 (dd_ (by omega) (by decide)) ⟨Nat.zero_le _, Nat.zero_le _⟩ rfl rfl (Nat.le_of_ble_eq_true rfl) kl_2 rfl (rk_5_0 W) ?_
        refine c_X3_find (by omega) (rk_5_0 W) (rk_3_3 io_2) hG1 (by omega) (by rw [(nl_w W).1]; omega) (by omega) (by omega) (by omega) (rs_lT RhG1) (fun r nf => ?_)
        rw [dhG1.2.2.1, dhG1.2.1] at nf
        have er : r = tT y T n a := ft_of E RhG1 (by omega) (by omega) (by omega) nf
        have rb := tT_bd y T n a
        refine s_iconst dX4_takeNewName_54 ?_
        refine s_icmp_ne (tgt := 62) dX4_takeNewName_55 (by decide) (by first | exact hG1.2 _ _ | exact hG.2 _ _ | exact b01_in _ | assumption | exact ⟨by omega, by omega⟩) (by first | exact hG1.2 _ _ | exact hG.2 _ _ | exact b01_in _ | assumption | exact ⟨by omega, by omega⟩) (fun c6 => ?_) (fun c6 => ?_)
        · refine s_iconst dX4_takeNewName_62 ?_
          refine s_aload_n dX4_takeNewName_63 rfl ?_
          refine s_geti dX4_takeNewName_64 fl_X4_105 kl_3 (by decide) rfl io_2 (z := 6) rfl ?_
          
          refine s_callP (as := [_, _]) (okU T n a ∧ tT y T n a = -1) (fun q => hb q) dX4_takeNewName_67 vf_X4_108 (dd_ (by omega) (by decide)) rfl rfl (Nat.le_of_ble_eq_true rfl) kl_3 rfl io_2 (fun b1 b2 Q1 hb1 k1 kx1 => ?_)
          exact c_X4_demand (by omega) (fun q => hb1 (fun z => by have z1 := z.1.1; have z2 := z.1.2.1; have z3 := z.1.2.2; have z4 := z.2; unfold wl__ at z1 z2 z3; omega)) RhG1 (hG1.2 _ _) (Or.inl rfl) (f := nb_ T n a) (by omega) (by omega) (fun q => absurd rfl q) (fun q h' X => kx1 _ _ _ (fun z => by have z1 := z.1.1; have z2 := z.1.2.1; have z3 := z.1.2.2; have z4 := z.2; unfold wl__ at z1 z2 z3; omega) (kx (fun z => by have z1 := z.1.1; have z2 := z.1.2.1; have z3 := z.1.2.2; have z4 := z.2; unfold wl__ at z1 z2 z3; omega) h' X))
        · refine s_iconst dX4_takeNewName_58 ?_
          refine s_goto (tgt := 63) dX4_takeNewName_59 (by decide) ?_
          refine s_aload_n dX4_takeNewName_63 rfl ?_
          refine s_geti dX4_takeNewName_64 fl_X4_105 kl_3 (by decide) rfl io_2 (z := 6) rfl ?_
          
          refine s_callP (as := [_, _]) (okU T n a ∧ tT y T n a = -1) (fun q => hb q) dX4_takeNewName_67 vf_X4_108 (dd_ (by omega) (by decide)) rfl rfl (Nat.le_of_ble_eq_true rfl) kl_3 rfl io_2 (fun b1 b2 Q1 hb1 k1 kx1 => ?_)
          refine c_X4_demand (by omega) (fun q => absurd q (by decide)) RhG1 (hG1.2 _ _) (Or.inr rfl) (f := nb_ T n a) (by omega) (by omega) (fun q => k1 _ _ _ (⟨⟨by unfold wl__; omega, by unfold wl__; omega, by unfold wl__; omega⟩, by omega⟩) ?_) (fun q => absurd q (by decide))
          refine s_aload_n dX4_takeNewName_70 rfl ?_
          refine s_aload_n dX4_takeNewName_71 rfl ?_
          refine s_getr dX4_takeNewName_72 fl_X4_29 kl_3 (by decide) rfl io_2 (z := 3) rfl (rf_3_3 hG1.1 io_2) (rk_3_3 io_2).1 ?_
          refine s_aload_n dX4_takeNewName_75 rfl ?_
          refine s_geti dX4_takeNewName_76 fl_X4_105 kl_3 (by decide) rfl io_2 (z := 6) rfl ?_
          refine s_iload_n dX4_takeNewName_79 rfl ?_
          refine s_callV (d' := d - 1) (bc' := 0) (bs' := 0) (as := [_, _, _]) dX4_takeNewName_80 vf_X4_214 (dd_ (by omega) (by decide)) ⟨Nat.zero_le _, Nat.zero_le _⟩ rfl rfl (Nat.le_of_ble_eq_true rfl) kl_2 rfl (rk_5_0 W) ?_
          refine c_X3_add (by omega) (rk_5_0 W) (rk_3_3 io_2) hG1 (by omega) (by rw [(nl_w W).1]; omega) (by omega) (by omega) (by omega) (by omega) (fun i i0 i1 => (rs_T E RhG1 i0 i1).2 |> fun q => by have e := (rs_T E RhG1 i0 i1).1; rw [e]; exact q) ?_
          rw [phG1.1]
          have ok9 : okU T n a ∧ tT y T n a = -1 := (⟨⟨by unfold wl__; omega, by unfold wl__; omega, by unfold wl__; omega⟩, by omega⟩)
          exact s_ireturn dX4_takeNewName_83 rfl (k ok9 _ (rs_addT E RhG1 (by omega) (by omega) ok9.1.1 ok9.1.2.1 (by unfold wl__; omega) (fun k k0 k1 => we_le (n := n) (a := nb_ T n a) (by omega) (by unfold wl__ wn_ at k1; omega)) (by omega) (by unfold wl__; omega)))
set_option maxRecDepth 100000 in
set_option maxHeartbeats 4000000 in
theorem c_X4_takeNewNameP  (hd : 9 ≤ d) (t8 : y 0 1 < 12) (hb : ¬ (okU T n a ∧ tP y T n a = -1) → 1 ≤ bc ∧ 6 ≤ bs) (E : EV_ h0 v n T) (RhG : RS_ h0 v n m a s y h) (a0 : 0 ≤ a) (a1 : a ≤ n) (k : okU T n a ∧ tP y T n a = -1 → ∀ h' : PH, RS_ h0 v n m (wn_ T n a) (nb_ T n a) (ynp y T (nb_ T n a) (wl__ T n a)) h' → Q.1 (some (0, y 0 1)) nN h') (kx : ¬ (okU T n a ∧ tP y T n a = -1) → ∀ h' : PH, RX_ h0 v (nb_ T n a) h' → Q.2 IAE nN h') : Cl_ yX4_takeNewName MX4_takeNewName d bc bs [(2, 2), (2, v + 14)] nN h Q := by
  refine s_enter pn_X4 rfl (Nat.le_of_ble_eq_true rfl) (L := [(2, _), (2, _), (9, 0), (9, 0)]) rfl ?_
  have hG := RhG.1.1
  have dhG := RhG.2.1
  have phG := RhG.2.2.1.1
  have hn := E.2.1
  have W := ev_w E
  have ewl : wl__ T n a = wn_ T n a - nb_ T n a := rfl
  have bd := wn_bd (T := T) a1
  have wl := wi_le (T := T) (s := nb_ T n a) (l := wn_ T n a - nb_ T n a)
  have i2 := RhG.2.2.2.2.2.2.1.2.1
  refine s_aload_n dX4_takeNewName_0 rfl ?_
  
  refine s_callP (as := []) (nb_ T n a < wn_ T n a) (fun q => hb (fun z => q (by have := z.1.1; unfold wl__ at this; omega))) dX4_takeNewName_1 vf_X4_46 (dd_ (by omega) (by decide)) rfl rfl (Nat.le_of_ble_eq_true rfl) kl_3 rfl io_2 (fun b1 b2 Q1 hb1 k1 kx1 => ?_)
  refine c_X4_takeWord (by omega) (fun q => hb1 q) E RhG a0 a1 (fun okhG1 hhG1 RhG1 => k1 _ _ _ okhG1 ?_) (fun q h' X => kx1 _ _ _ q (kx (fun z => q (by have := z.1.1; unfold wl__ at this; omega)) h' X))
  have hG1 := RhG1.1.1
  have dhG1 := RhG1.2.1
  have phG1 := RhG1.2.2.1.1
  refine s_aload_n dX4_takeNewName_4 rfl ?_
  refine s_geti dX4_takeNewName_5 fl_X4_36 kl_3 (by decide) rfl io_2 (z := 5) rfl ?_
  refine s_aload_n dX4_takeNewName_8 rfl ?_
  refine s_geti dX4_takeNewName_9 fl_X4_105 kl_3 (by decide) rfl io_2 (z := 6) rfl ?_
  refine s_isub dX4_takeNewName_12 ?_
  refine s_istore_n dX4_takeNewName_13 (by decide) rfl (L' := [_, _, _, _]) rfl ?_
  refine s_iload_n dX4_takeNewName_14 rfl ?_
  refine s_bipush dX4_takeNewName_15 (by decide) ?_
  refine s_icmp_gt (tgt := 34) dX4_takeNewName_17 (by decide) (by first | exact hG1.2 _ _ | exact hG.2 _ _ | exact b01_in _ | assumption | exact ⟨by omega, by omega⟩) (by first | exact hG1.2 _ _ | exact hG.2 _ _ | exact b01_in _ | assumption | exact ⟨by omega, by omega⟩) (fun c1 => ?_) (fun c1 => ?_)
  · refine s_iconst dX4_takeNewName_34 ?_
    refine s_istore_n dX4_takeNewName_35 (by decide) rfl (L' := [_, _, _, _]) rfl ?_
    refine s_aload_n dX4_takeNewName_36 rfl ?_
    refine s_iload_n dX4_takeNewName_37 rfl ?_
    refine s_if_eq (tgt := 62) dX4_takeNewName_38 (by decide) (by first | exact hG1.2 _ _ | exact hG.2 _ _ | exact b01_in _ | assumption | exact ⟨by omega, by omega⟩) (fun c2 => ?_) (fun c2 => ?_)
    · refine s_iconst dX4_takeNewName_62 ?_
      refine s_aload_n dX4_takeNewName_63 rfl ?_
      refine s_geti dX4_takeNewName_64 fl_X4_105 kl_3 (by decide) rfl io_2 (z := 6) rfl ?_
      
      refine s_callP (as := [_, _]) (okU T n a ∧ tP y T n a = -1) (fun q => hb q) dX4_takeNewName_67 vf_X4_108 (dd_ (by omega) (by decide)) rfl rfl (Nat.le_of_ble_eq_true rfl) kl_3 rfl io_2 (fun b1 b2 Q1 hb1 k1 kx1 => ?_)
      exact c_X4_demand (by omega) (fun q => hb1 (fun z => by have z1 := z.1.1; have z2 := z.1.2.1; have z3 := z.1.2.2; have z4 := z.2; unfold wl__ at z1 z2 z3; omega)) RhG1 (hG1.2 _ _) (Or.inl rfl) (f := nb_ T n a) (by omega) (by omega) (fun q => absurd rfl q) (fun q h' X => kx1 _ _ _ (fun z => by have z1 := z.1.1; have z2 := z.1.2.1; have z3 := z.1.2.2; have z4 := z.2; unfold wl__ at z1 z2 z3; omega) (kx (fun z => by have z1 := z.1.1; have z2 := z.1.2.1; have z3 := z.1.2.2; have z4 := z.2; unfold wl__ at z1 z2 z3; omega) h' X))
    · exact absurd rfl c2
  · refine s_aload_n dX4_takeNewName_20 rfl ?_
    refine s_callV (d' := d - 1) (bc' := 0) (bs' := 0) (as := []) dX4_takeNewName_21 vf_X4_55 (dd_ (by omega) (by decide)) ⟨Nat.zero_le _, Nat.zero_le _⟩ rfl rfl (Nat.le_of_ble_eq_true rfl) kl_3 rfl io_2 ?_
    refine c_X4_takenWord (by omega) E RhG1 (by omega) (by omega) (by omega) ?_
    refine s_getsr dX4_takeNewName_24 (C := "WillHouse$Word") (nm := "OTHER") (ds := "LWillHouse$Word;") (ref := "") (z := 1223) (by decide +kernel) fl_X4_207 ?_
    refine s_wcmp_ne (tgt := 34) dX4_takeNewName_27 (by decide) (i := wi_ T (nb_ T n a) (wn_ T n a - nb_ T n a)) (j := 23) (by omega) (by decide) rfl (by decide) (fun c3 => ?_) (fun c3 => ?_)
    · refine s_iconst dX4_takeNewName_34 ?_
      refine s_istore_n dX4_takeNewName_35 (by decide) rfl (L' := [_, _, _, _]) rfl ?_
      refine s_aload_n dX4_takeNewName_36 rfl ?_
      refine s_iload_n dX4_takeNewName_37 rfl ?_
      refine s_if_eq (tgt := 62) dX4_takeNewName_38 (by decide) (by first | exact hG1.2 _ _ | exact hG.2 _ _ | exact b01_in _ | assumption | exact ⟨by omega, by omega⟩) (fun c4 => ?_) (fun c4 => ?_)
      · refine s_iconst dX4_takeNewName_62 ?_
        refine s_aload_n dX4_takeNewName_63 rfl ?_
        refine s_geti dX4_takeNewName_64 fl_X4_105 kl_3 (by decide) rfl io_2 (z := 6) rfl ?_
        
        refine s_callP (as := [_, _]) (okU T n a ∧ tP y T n a = -1) (fun q => hb q) dX4_takeNewName_67 vf_X4_108 (dd_ (by omega) (by decide)) rfl rfl (Nat.le_of_ble_eq_true rfl) kl_3 rfl io_2 (fun b1 b2 Q1 hb1 k1 kx1 => ?_)
        exact c_X4_demand (by omega) (fun q => hb1 (fun z => by have z1 := z.1.1; have z2 := z.1.2.1; have z3 := z.1.2.2; have z4 := z.2; unfold wl__ at z1 z2 z3; omega)) RhG1 (hG1.2 _ _) (Or.inl rfl) (f := nb_ T n a) (by omega) (by omega) (fun q => absurd rfl q) (fun q h' X => kx1 _ _ _ (fun z => by have z1 := z.1.1; have z2 := z.1.2.1; have z3 := z.1.2.2; have z4 := z.2; unfold wl__ at z1 z2 z3; omega) (kx (fun z => by have z1 := z.1.1; have z2 := z.1.2.1; have z3 := z.1.2.2; have z4 := z.2; unfold wl__ at z1 z2 z3; omega) h' X))
      · exact absurd rfl c4
    · refine s_iconst dX4_takeNewName_30 ?_
      refine s_goto (tgt := 35) dX4_takeNewName_31 (by decide) ?_
      refine s_istore_n dX4_takeNewName_35 (by decide) rfl (L' := [_, _, _, _]) rfl ?_
      refine s_aload_n dX4_takeNewName_36 rfl ?_
      refine s_iload_n dX4_takeNewName_37 rfl ?_
      refine s_if_eq (tgt := 62) dX4_takeNewName_38 (by decide) (by first | exact hG1.2 _ _ | exact hG.2 _ _ | exact b01_in _ | assumption | exact ⟨by omega, by omega⟩) (fun c5 => ?_) (fun c5 => ?_)
      · exact absurd c5 (by decide)
      · refine s_aload_n dX4_takeNewName_41 rfl ?_
        refine s_aload_n dX4_takeNewName_42 rfl ?_
        refine s_getr dX4_takeNewName_43 fl_X4_29 kl_3 (by decide) rfl io_2 (z := 3) rfl (rf_3_3 hG1.1 io_2) (rk_3_3 io_2).1 ?_
        refine s_aload_n dX4_takeNewName_46 rfl ?_
        refine s_geti dX4_takeNewName_47 fl_X4_105 kl_3 (by decide) rfl io_2 (z := 6) rfl ?_
        refine s_iload_n dX4_takeNewName_50 rfl ?_
        refine s_callV (d' := d - 1) (bc' := 0) (bs' := 0) (as := [_, _, _]) dX4_takeNewName_51 vf_X4_210 (dd_ (by omega) (by decide)) ⟨Nat.zero_le _, Nat.zero_le _⟩ rfl rfl (Nat.le_of_ble_eq_true rfl) kl_2 rfl (rk_5_3 W) ?_
        refine c_X3_find (by omega) (rk_5_3 W) (rk_3_3 io_2) hG1 (by omega) (by rw [(nl_w W).2]; omega) (by omega) (by omega) (by omega) (rs_lP RhG1) (fun r nf => ?_)
        rw [dhG1.2.2.1, dhG1.2.1] at nf
        have er : r = tP y T n a := fp_of E RhG1 (by omega) (by omega) (by omega) nf
        have rb := tP_bd y T n a
        refine s_iconst dX4_takeNewName_54 ?_
        refine s_icmp_ne (tgt := 62) dX4_takeNewName_55 (by decide) (by first | exact hG1.2 _ _ | exact hG.2 _ _ | exact b01_in _ | assumption | exact ⟨by omega, by omega⟩) (by first | exact hG1.2 _ _ | exact hG.2 _ _ | exact b01_in _ | assumption | exact ⟨by omega, by omega⟩) (fun c6 => ?_) (fun c6 => ?_)
        · refine s_iconst dX4_takeNewName_62 ?_
          refine s_aload_n dX4_takeNewName_63 rfl ?_
          refine s_geti dX4_takeNewName_64 fl_X4_105 kl_3 (by decide) rfl io_2 (z := 6) rfl ?_
          
          refine s_callP (as := [_, _]) (okU T n a ∧ tP y T n a = -1) (fun q => hb q) dX4_takeNewName_67 vf_X4_108 (dd_ (by omega) (by decide)) rfl rfl (Nat.le_of_ble_eq_true rfl) kl_3 rfl io_2 (fun b1 b2 Q1 hb1 k1 kx1 => ?_)
          exact c_X4_demand (by omega) (fun q => hb1 (fun z => by have z1 := z.1.1; have z2 := z.1.2.1; have z3 := z.1.2.2; have z4 := z.2; unfold wl__ at z1 z2 z3; omega)) RhG1 (hG1.2 _ _) (Or.inl rfl) (f := nb_ T n a) (by omega) (by omega) (fun q => absurd rfl q) (fun q h' X => kx1 _ _ _ (fun z => by have z1 := z.1.1; have z2 := z.1.2.1; have z3 := z.1.2.2; have z4 := z.2; unfold wl__ at z1 z2 z3; omega) (kx (fun z => by have z1 := z.1.1; have z2 := z.1.2.1; have z3 := z.1.2.2; have z4 := z.2; unfold wl__ at z1 z2 z3; omega) h' X))
        · refine s_iconst dX4_takeNewName_58 ?_
          refine s_goto (tgt := 63) dX4_takeNewName_59 (by decide) ?_
          refine s_aload_n dX4_takeNewName_63 rfl ?_
          refine s_geti dX4_takeNewName_64 fl_X4_105 kl_3 (by decide) rfl io_2 (z := 6) rfl ?_
          
          refine s_callP (as := [_, _]) (okU T n a ∧ tP y T n a = -1) (fun q => hb q) dX4_takeNewName_67 vf_X4_108 (dd_ (by omega) (by decide)) rfl rfl (Nat.le_of_ble_eq_true rfl) kl_3 rfl io_2 (fun b1 b2 Q1 hb1 k1 kx1 => ?_)
          refine c_X4_demand (by omega) (fun q => absurd q (by decide)) RhG1 (hG1.2 _ _) (Or.inr rfl) (f := nb_ T n a) (by omega) (by omega) (fun q => k1 _ _ _ (⟨⟨by unfold wl__; omega, by unfold wl__; omega, by unfold wl__; omega⟩, by omega⟩) ?_) (fun q => absurd q (by decide))
          refine s_aload_n dX4_takeNewName_70 rfl ?_
          refine s_aload_n dX4_takeNewName_71 rfl ?_
          refine s_getr dX4_takeNewName_72 fl_X4_29 kl_3 (by decide) rfl io_2 (z := 3) rfl (rf_3_3 hG1.1 io_2) (rk_3_3 io_2).1 ?_
          refine s_aload_n dX4_takeNewName_75 rfl ?_
          refine s_geti dX4_takeNewName_76 fl_X4_105 kl_3 (by decide) rfl io_2 (z := 6) rfl ?_
          refine s_iload_n dX4_takeNewName_79 rfl ?_
          refine s_callV (d' := d - 1) (bc' := 0) (bs' := 0) (as := [_, _, _]) dX4_takeNewName_80 vf_X4_214 (dd_ (by omega) (by decide)) ⟨Nat.zero_le _, Nat.zero_le _⟩ rfl rfl (Nat.le_of_ble_eq_true rfl) kl_2 rfl (rk_5_3 W) ?_
          refine c_X3_add (by omega) (rk_5_3 W) (rk_3_3 io_2) hG1 (by omega) (by rw [(nl_w W).2]; omega) (by omega) (by omega) (by omega) (by omega) (fun i i0 i1 => (rs_T E RhG1 i0 i1).2 |> fun q => by have e := (rs_T E RhG1 i0 i1).1; rw [e]; exact q) ?_
          rw [phG1.2.1]
          have ok9 : okU T n a ∧ tP y T n a = -1 := (⟨⟨by unfold wl__; omega, by unfold wl__; omega, by unfold wl__; omega⟩, by omega⟩)
          exact s_ireturn dX4_takeNewName_83 rfl (k ok9 _ (rs_addP E RhG1 (by omega) (by omega) ok9.1.1 ok9.1.2.1 (by unfold wl__; omega) (fun k k0 k1 => we_le (n := n) (a := nb_ T n a) (by omega) (by unfold wl__ wn_ at k1; omega)) (by omega) (by unfold wl__; omega)))
set_option maxRecDepth 100000 in
set_option maxHeartbeats 4000000 in
theorem c_X4_takeToldNameT  (hd : 9 ≤ d) (hb : ¬ (¬ tT y T n a = -1) → 1 ≤ bc ∧ 6 ≤ bs) (E : EV_ h0 v n T) (RhG : RS_ h0 v n m a s y h) (a0 : 0 ≤ a) (a1 : a ≤ n) (k : ¬ tT y T n a = -1 → ∀ h' : PH, RS_ h0 v n m (wn_ T n a) (nb_ T n a) y h' → Q.1 (some (0, tT y T n a)) nN h') (kx : ¬ (¬ tT y T n a = -1) → ∀ h' : PH, RX_ h0 v (nb_ T n a) h' → Q.2 IAE nN h') : Cl_ yX4_takeToldName MX4_takeToldName d bc bs [(2, 2), (2, v + 1)] nN h Q := by
  refine s_enter pn_X4 rfl (Nat.le_of_ble_eq_true rfl) (L := [(2, _), (2, _), (9, 0)]) rfl ?_
  have hG := RhG.1.1
  have dhG := RhG.2.1
  have phG := RhG.2.2.1.1
  have hn := E.2.1
  have W := ev_w E
  have ewl : wl__ T n a = wn_ T n a - nb_ T n a := rfl
  have bd := wn_bd (T := T) a1
  have i2 := RhG.2.2.2.2.2.2.1.1
  refine s_aload_n dX4_takeToldName_0 rfl ?_
  
  refine s_callP (as := []) (nb_ T n a < wn_ T n a) (fun q => hb (fun z => z (tT_no RhG.2.2.2.2.2 q a1))) dX4_takeToldName_1 vf_X4_46 (dd_ (by omega) (by decide)) rfl rfl (Nat.le_of_ble_eq_true rfl) kl_3 rfl io_2 (fun b1 b2 Q1 hb1 k1 kx1 => ?_)
  refine c_X4_takeWord (by omega) (fun q => hb1 q) E RhG a0 a1 (fun okhG1 hhG1 RhG1 => k1 _ _ _ okhG1 ?_) (fun q h' X => kx1 _ _ _ q (kx (fun z => z (tT_no RhG.2.2.2.2.2 q a1)) h' X))
  have hG1 := RhG1.1.1
  have dhG1 := RhG1.2.1
  have phG1 := RhG1.2.2.1.1
  refine s_aload_n dX4_takeToldName_4 rfl ?_
  refine s_aload_n dX4_takeToldName_5 rfl ?_
  refine s_getr dX4_takeToldName_6 fl_X4_29 kl_3 (by decide) rfl io_2 (z := 3) rfl (rf_3_3 hG1.1 io_2) (rk_3_3 io_2).1 ?_
  refine s_aload_n dX4_takeToldName_9 rfl ?_
  refine s_geti dX4_takeToldName_10 fl_X4_105 kl_3 (by decide) rfl io_2 (z := 6) rfl ?_
  refine s_aload_n dX4_takeToldName_13 rfl ?_
  refine s_geti dX4_takeToldName_14 fl_X4_36 kl_3 (by decide) rfl io_2 (z := 5) rfl ?_
  refine s_aload_n dX4_takeToldName_17 rfl ?_
  refine s_geti dX4_takeToldName_18 fl_X4_105 kl_3 (by decide) rfl io_2 (z := 6) rfl ?_
  refine s_isub dX4_takeToldName_21 ?_
  refine s_callV (d' := d - 1) (bc' := 0) (bs' := 0) (as := [_, _, _]) dX4_takeToldName_22 vf_X4_210 (dd_ (by omega) (by decide)) ⟨Nat.zero_le _, Nat.zero_le _⟩ rfl rfl (Nat.le_of_ble_eq_true rfl) kl_2 rfl (rk_5_0 W) ?_
  refine c_X3_find (by omega) (rk_5_0 W) (rk_3_3 io_2) hG1 (by omega) (by rw [(nl_w W).1]; omega) (by omega) (by omega) (by omega) (rs_lT RhG1) (fun r nf => ?_)
  rw [dhG1.2.2.1, dhG1.2.1] at nf
  have er : r = tT y T n a := ft_of E RhG1 (by omega) (by omega) (by omega) nf
  have rb := tT_bd y T n a
  refine s_istore_n dX4_takeToldName_25 (by decide) rfl (L' := [_, _, _]) rfl ?_
  refine s_aload_n dX4_takeToldName_26 rfl ?_
  refine s_iload_n dX4_takeToldName_27 rfl ?_
  refine s_iconst dX4_takeToldName_28 ?_
  refine s_icmp_eq (tgt := 36) dX4_takeToldName_29 (by decide) (by first | exact hG1.2 _ _ | exact hG.2 _ _ | exact b01_in _ | assumption | exact ⟨by omega, by omega⟩) (by first | exact hG1.2 _ _ | exact hG.2 _ _ | exact b01_in _ | assumption | exact ⟨by omega, by omega⟩) (fun c1 => ?_) (fun c1 => ?_)
  · refine s_iconst dX4_takeToldName_36 ?_
    refine s_aload_n dX4_takeToldName_37 rfl ?_
    refine s_geti dX4_takeToldName_38 fl_X4_105 kl_3 (by decide) rfl io_2 (z := 6) rfl ?_
    
    refine s_callP (as := [_, _]) (¬ tT y T n a = -1) (fun q => hb q) dX4_takeToldName_41 vf_X4_108 (dd_ (by omega) (by decide)) rfl rfl (Nat.le_of_ble_eq_true rfl) kl_3 rfl io_2 (fun b1 b2 Q1 hb1 k1 kx1 => ?_)
    exact c_X4_demand (by omega) (fun q => hb1 (by omega)) RhG1 (hG1.2 _ _) (Or.inl rfl) (f := nb_ T n a) (by omega) (by omega) (fun q => absurd rfl q) (fun q h' X => kx1 _ _ _ (by omega) (kx (by omega) h' X))
  · refine s_iconst dX4_takeToldName_32 ?_
    refine s_goto (tgt := 37) dX4_takeToldName_33 (by decide) ?_
    refine s_aload_n dX4_takeToldName_37 rfl ?_
    refine s_geti dX4_takeToldName_38 fl_X4_105 kl_3 (by decide) rfl io_2 (z := 6) rfl ?_
    
    refine s_callP (as := [_, _]) (¬ tT y T n a = -1) (fun q => hb q) dX4_takeToldName_41 vf_X4_108 (dd_ (by omega) (by decide)) rfl rfl (Nat.le_of_ble_eq_true rfl) kl_3 rfl io_2 (fun b1 b2 Q1 hb1 k1 kx1 => ?_)
    refine c_X4_demand (by omega) (fun q => absurd q (by decide)) RhG1 (hG1.2 _ _) (Or.inr rfl) (f := nb_ T n a) (by omega) (by omega) (fun q => k1 _ _ _ (by omega) ?_) (fun q => absurd q (by decide))
    refine s_iload_n dX4_takeToldName_44 rfl ?_
    rw [er]
    exact s_ireturn dX4_takeToldName_45 rfl (k (by omega) _ RhG1)
set_option maxRecDepth 100000 in
set_option maxHeartbeats 4000000 in
theorem c_X4_takeToldNameP  (hd : 9 ≤ d) (hb : ¬ (¬ tP y T n a = -1) → 1 ≤ bc ∧ 6 ≤ bs) (E : EV_ h0 v n T) (RhG : RS_ h0 v n m a s y h) (a0 : 0 ≤ a) (a1 : a ≤ n) (k : ¬ tP y T n a = -1 → ∀ h' : PH, RS_ h0 v n m (wn_ T n a) (nb_ T n a) y h' → Q.1 (some (0, tP y T n a)) nN h') (kx : ¬ (¬ tP y T n a = -1) → ∀ h' : PH, RX_ h0 v (nb_ T n a) h' → Q.2 IAE nN h') : Cl_ yX4_takeToldName MX4_takeToldName d bc bs [(2, 2), (2, v + 14)] nN h Q := by
  refine s_enter pn_X4 rfl (Nat.le_of_ble_eq_true rfl) (L := [(2, _), (2, _), (9, 0)]) rfl ?_
  have hG := RhG.1.1
  have dhG := RhG.2.1
  have phG := RhG.2.2.1.1
  have hn := E.2.1
  have W := ev_w E
  have ewl : wl__ T n a = wn_ T n a - nb_ T n a := rfl
  have bd := wn_bd (T := T) a1
  have i2 := RhG.2.2.2.2.2.2.1.2.1
  refine s_aload_n dX4_takeToldName_0 rfl ?_
  
  refine s_callP (as := []) (nb_ T n a < wn_ T n a) (fun q => hb (fun z => z (tP_no RhG.2.2.2.2.2 q a1))) dX4_takeToldName_1 vf_X4_46 (dd_ (by omega) (by decide)) rfl rfl (Nat.le_of_ble_eq_true rfl) kl_3 rfl io_2 (fun b1 b2 Q1 hb1 k1 kx1 => ?_)
  refine c_X4_takeWord (by omega) (fun q => hb1 q) E RhG a0 a1 (fun okhG1 hhG1 RhG1 => k1 _ _ _ okhG1 ?_) (fun q h' X => kx1 _ _ _ q (kx (fun z => z (tP_no RhG.2.2.2.2.2 q a1)) h' X))
  have hG1 := RhG1.1.1
  have dhG1 := RhG1.2.1
  have phG1 := RhG1.2.2.1.1
  refine s_aload_n dX4_takeToldName_4 rfl ?_
  refine s_aload_n dX4_takeToldName_5 rfl ?_
  refine s_getr dX4_takeToldName_6 fl_X4_29 kl_3 (by decide) rfl io_2 (z := 3) rfl (rf_3_3 hG1.1 io_2) (rk_3_3 io_2).1 ?_
  refine s_aload_n dX4_takeToldName_9 rfl ?_
  refine s_geti dX4_takeToldName_10 fl_X4_105 kl_3 (by decide) rfl io_2 (z := 6) rfl ?_
  refine s_aload_n dX4_takeToldName_13 rfl ?_
  refine s_geti dX4_takeToldName_14 fl_X4_36 kl_3 (by decide) rfl io_2 (z := 5) rfl ?_
  refine s_aload_n dX4_takeToldName_17 rfl ?_
  refine s_geti dX4_takeToldName_18 fl_X4_105 kl_3 (by decide) rfl io_2 (z := 6) rfl ?_
  refine s_isub dX4_takeToldName_21 ?_
  refine s_callV (d' := d - 1) (bc' := 0) (bs' := 0) (as := [_, _, _]) dX4_takeToldName_22 vf_X4_210 (dd_ (by omega) (by decide)) ⟨Nat.zero_le _, Nat.zero_le _⟩ rfl rfl (Nat.le_of_ble_eq_true rfl) kl_2 rfl (rk_5_3 W) ?_
  refine c_X3_find (by omega) (rk_5_3 W) (rk_3_3 io_2) hG1 (by omega) (by rw [(nl_w W).2]; omega) (by omega) (by omega) (by omega) (rs_lP RhG1) (fun r nf => ?_)
  rw [dhG1.2.2.1, dhG1.2.1] at nf
  have er : r = tP y T n a := fp_of E RhG1 (by omega) (by omega) (by omega) nf
  have rb := tP_bd y T n a
  refine s_istore_n dX4_takeToldName_25 (by decide) rfl (L' := [_, _, _]) rfl ?_
  refine s_aload_n dX4_takeToldName_26 rfl ?_
  refine s_iload_n dX4_takeToldName_27 rfl ?_
  refine s_iconst dX4_takeToldName_28 ?_
  refine s_icmp_eq (tgt := 36) dX4_takeToldName_29 (by decide) (by first | exact hG1.2 _ _ | exact hG.2 _ _ | exact b01_in _ | assumption | exact ⟨by omega, by omega⟩) (by first | exact hG1.2 _ _ | exact hG.2 _ _ | exact b01_in _ | assumption | exact ⟨by omega, by omega⟩) (fun c1 => ?_) (fun c1 => ?_)
  · refine s_iconst dX4_takeToldName_36 ?_
    refine s_aload_n dX4_takeToldName_37 rfl ?_
    refine s_geti dX4_takeToldName_38 fl_X4_105 kl_3 (by decide) rfl io_2 (z := 6) rfl ?_
    
    refine s_callP (as := [_, _]) (¬ tP y T n a = -1) (fun q => hb q) dX4_takeToldName_41 vf_X4_108 (dd_ (by omega) (by decide)) rfl rfl (Nat.le_of_ble_eq_true rfl) kl_3 rfl io_2 (fun b1 b2 Q1 hb1 k1 kx1 => ?_)
    exact c_X4_demand (by omega) (fun q => hb1 (by omega)) RhG1 (hG1.2 _ _) (Or.inl rfl) (f := nb_ T n a) (by omega) (by omega) (fun q => absurd rfl q) (fun q h' X => kx1 _ _ _ (by omega) (kx (by omega) h' X))
  · refine s_iconst dX4_takeToldName_32 ?_
    refine s_goto (tgt := 37) dX4_takeToldName_33 (by decide) ?_
    refine s_aload_n dX4_takeToldName_37 rfl ?_
    refine s_geti dX4_takeToldName_38 fl_X4_105 kl_3 (by decide) rfl io_2 (z := 6) rfl ?_
    
    refine s_callP (as := [_, _]) (¬ tP y T n a = -1) (fun q => hb q) dX4_takeToldName_41 vf_X4_108 (dd_ (by omega) (by decide)) rfl rfl (Nat.le_of_ble_eq_true rfl) kl_3 rfl io_2 (fun b1 b2 Q1 hb1 k1 kx1 => ?_)
    refine c_X4_demand (by omega) (fun q => absurd q (by decide)) RhG1 (hG1.2 _ _) (Or.inr rfl) (f := nb_ T n a) (by omega) (by omega) (fun q => k1 _ _ _ (by omega) ?_) (fun q => absurd q (by decide))
    refine s_iload_n dX4_takeToldName_44 rfl ?_
    rw [er]
    exact s_ireturn dX4_takeToldName_45 rfl (k (by omega) _ RhG1)
theorem txl_ : ∀ j : Nat, j < 23 → 1 ≤ (txb_ j).length := by decide +kernel
set_option maxRecDepth 100000 in
set_option maxHeartbeats 4000000 in
theorem c_X4_takeThis {j : Nat} (hj : j < 23) (hd : 9 ≤ d) (hb : ¬ (okW T n a j) → 1 ≤ bc ∧ 6 ≤ bs) (E : EV_ h0 v n T) (RhG : RS_ h0 v n m a s y h) (a0 : 0 ≤ a) (a1 : a ≤ n) (k : okW T n a j → ∀ h' : PH, RS_ h0 v n m (wn_ T n a) (nb_ T n a) y h' → Q.1 none nN h') (kx : ¬ (okW T n a j) → ∀ h' : PH, RX_ h0 v (nb_ T n a) h' → Q.2 IAE nN h') : Cl_ yX4_takeThis MX4_takeThis d bc bs [(2, 2), (2, 1200 + j)] nN h Q := by
  refine s_enter pn_X4 rfl (Nat.le_of_ble_eq_true rfl) (L := [(2, _), (2, _)]) rfl ?_
  have hG := RhG.1.1
  have dhG := RhG.2.1
  have phG := RhG.2.2.1.1
  have hn := E.2.1
  have W := ev_w E
  have ewl : wl__ T n a = wn_ T n a - nb_ T n a := rfl
  have bd := wn_bd (T := T) a1
  have lj : 1 ≤ (txb_ j).length := txl_ j hj
  refine s_aload_n dX4_takeThis_0 rfl ?_
  
  refine s_callP (as := []) (nb_ T n a < wn_ T n a) (fun q => hb (fun z => by have := z.1; unfold wl__ at this; omega)) dX4_takeThis_1 vf_X4_46 (dd_ (by omega) (by decide)) rfl rfl (Nat.le_of_ble_eq_true rfl) kl_3 rfl io_2 (fun b1 b2 Q1 hb1 k1 kx1 => ?_)
  refine c_X4_takeWord (by omega) (fun q => hb1 q) E RhG a0 a1 (fun okhG1 hhG1 RhG1 => k1 _ _ _ okhG1 ?_) (fun q h' X => kx1 _ _ _ q (kx (fun z => by have := z.1; have := q; unfold wl__ at *; omega) h' X))
  have hG1 := RhG1.1.1
  have dhG1 := RhG1.2.1
  have phG1 := RhG1.2.2.1.1
  refine s_aload_n dX4_takeThis_4 rfl ?_
  refine s_aload_n dX4_takeThis_5 rfl ?_
  refine s_aload_n dX4_takeThis_6 rfl ?_
  refine s_kfld (v := (2, 1000 + j)) (z := 1200 + (j : Int)) (ref := "") dX4_takeThis_7 (kx_le (by omega)) fl_X4_217 ?_
  refine s_callV (d' := d - 1) (bc' := 0) (bs' := 0) (as := [_]) dX4_takeThis_10 vf_X4_221 (dd_ (by omega) (by decide)) ⟨Nat.zero_le _, Nat.zero_le _⟩ rfl rfl (Nat.le_of_ble_eq_true rfl) kl_3 rfl io_2 ?_
  refine c_X4_isTaken (by omega) (by omega) E RhG1 (by omega) (by omega) (by omega) ?_
  refine s_aload_n dX4_takeThis_13 rfl ?_
  refine s_geti dX4_takeThis_14 fl_X4_105 kl_3 (by decide) rfl io_2 (z := 6) rfl ?_
  
  refine s_callP (as := [_, _]) (okW T n a j) (fun q => hb q) dX4_takeThis_17 vf_X4_108 (dd_ (by omega) (by decide)) rfl rfl (Nat.le_of_ble_eq_true rfl) kl_3 rfl io_2 (fun b1 b2 Q1 hb1 k1 kx1 => ?_)
  refine c_X4_demand (by omega) (fun q => hb1 (b01_0.mp q)) RhG1 (hG1.2 _ _) (b01_or _) (f := nb_ T n a) (by omega) (by omega) (fun q => ?_) (fun q h' X => kx1 _ _ _ (b01_0.mp q) (kx (b01_0.mp q) h' X))
  have ok9 := b01_n.mp q
  refine k1 _ _ _ ok9 ?_
  exact s_return dX4_takeThis_20 rfl (k ok9 _ RhG1)
set_option maxRecDepth 100000 in
set_option maxHeartbeats 4000000 in
theorem c_X4_takeRank  (hd : 10 ≤ d) (hb : ¬ (pgR 1 T n a y).1 = -1 → 1 ≤ bc ∧ 6 ≤ bs) (E : EV_ h0 v n T) (RhG : RS_ h0 v n m a s y h) (a0 : 0 ≤ a) (a1 : a ≤ n) (k : (pgR 1 T n a y).1 = -1 → ∀ s' h', RS_ h0 v n m (pgR 1 T n a y).2.1 s' y h' → 1 ≤ (pgR 1 T n a y).2.2 0 0 → (pgR 1 T n a y).2.2 0 0 ≤ 4 → Q.1 (some (0, (pgR 1 T n a y).2.2 0 0)) nN h') (kx : ¬ (pgR 1 T n a y).1 = -1 → ∀ h' : PH, RX_ h0 v (pgR 1 T n a y).1 h' → Q.2 IAE nN h') : Cl_ yX4_takeRank MX4_takeRank d bc bs [(2, 2)] nN h Q := by
  refine s_enter pn_X4 rfl (Nat.le_of_ble_eq_true rfl) (L := [(2, _)]) rfl ?_
  have hG := RhG.1.1
  have dhG := RhG.2.1
  have phG := RhG.2.2.1.1
  have hn := E.2.1
  have W := ev_w E
  have ewl : wl__ T n a = wn_ T n a - nb_ T n a := rfl
  have bd := wn_bd (T := T) a1
  have lt := wn_lt (T := T) a1
  have bd2 := dn_bd (T := T) (n := n) (a := wn_ T n a) (by omega)
  have e0 : pgR 1 T n a y = iC (nb_ T n a < wn_ T n a) (iC (¬ okW T n a 10) (nb_ T n a, 0, y) (iC (¬ okN T n (wn_ T n a) 1 4) (nb_ T n (wn_ T n a), 0, y) (-1, dn_ T n (wn_ T n a), fun _ _ => dv_ T n (wn_ T n a)))) (-1, nb_ T n a, fun _ _ => 4) := by unfold pgR; rw [iC_t (Or.inl rfl)]
  rw [e0] at hb k kx
  refine s_aload_n dX4_takeRank_0 rfl ?_
  refine s_callV (d' := d - 1) (bc' := 0) (bs' := 0) (as := []) dX4_takeRank_1 vf_X4_43 (dd_ (by omega) (by decide)) ⟨Nat.zero_le _, Nat.zero_le _⟩ rfl rfl (Nat.le_of_ble_eq_true rfl) kl_3 rfl io_2 ?_
  refine c_X4_skipBlanks E RhG a0 a1 (fun hhG1 RhG1 => ?_)
  have hG1 := RhG1.1.1
  have dhG1 := RhG1.2.1
  have phG1 := RhG1.2.2.1.1
  have tx := rs_tx E RhG1 (by omega)
  refine s_aload_n dX4_takeRank_4 rfl ?_
  refine s_geti dX4_takeRank_5 fl_X4_36 kl_3 (by decide) rfl io_2 (z := 5) rfl ?_
  refine s_aload_n dX4_takeRank_8 rfl ?_
  refine s_geti dX4_takeRank_9 fl_X4_33 kl_3 (by decide) rfl io_2 (z := 4) rfl ?_
  refine s_icmp_ge (tgt := 44) dX4_takeRank_12 (by decide) (by first | exact hG1.2 _ _ | exact hG.2 _ _ | exact b01_in _ | assumption | exact ⟨by omega, by omega⟩) (by first | exact hG1.2 _ _ | exact hG.2 _ _ | exact b01_in _ | assumption | exact ⟨by omega, by omega⟩) (fun c1 => ?_) (fun c1 => ?_)
  · refine s_iconst dX4_takeRank_44 ?_
    rw [iC_f (by omega)] at k
    exact s_ireturn dX4_takeRank_45 rfl (k rfl _ _ RhG1 (show (1 : Int) ≤ 4 by decide) (show (4 : Int) ≤ 4 by decide))
  · refine s_aload_n dX4_takeRank_15 rfl ?_
    refine s_getr dX4_takeRank_16 fl_X4_29 kl_3 (by decide) rfl io_2 (z := 3) rfl (rf_3_3 hG1.1 io_2) (rk_3_3 io_2).1 ?_
    refine s_aload_n dX4_takeRank_19 rfl ?_
    refine s_geti dX4_takeRank_20 fl_X4_36 kl_3 (by decide) rfl io_2 (z := 5) rfl ?_
    refine s_baload1 dX4_takeRank_23 (rk_3_3 io_2) (by omega) (by omega) ?_
    refine s_callS (d' := d - 1) (bc' := 0) (bs' := 0) (as := [_]) dX4_takeRank_24 sf_X4_200 (dd_ (by omega) (by decide)) ⟨Nat.zero_le _, Nat.zero_le _⟩ rfl rfl (Nat.le_of_ble_eq_true rfl) ?_
    refine c_X4_isLetter (hG1.2 _ _) ?_
    refine s_if_eq (tgt := 44) dX4_takeRank_27 (by decide) (by first | exact hG1.2 _ _ | exact hG.2 _ _ | exact b01_in _ | assumption | exact ⟨by omega, by omega⟩) (fun c2 => ?_) (fun c2 => ?_)
    · have c2 := b01_0.mp c2
      refine s_iconst dX4_takeRank_44 ?_
      rw [iC_f (by omega)] at k
      exact s_ireturn dX4_takeRank_45 rfl (k rfl _ _ RhG1 (show (1 : Int) ≤ 4 by decide) (show (4 : Int) ≤ 4 by decide))
    · have c2 := b01_n.mp c2
      refine s_aload_n dX4_takeRank_30 rfl ?_
      refine s_getsr dX4_takeRank_31 (C := "WillHouse$Word") (nm := "RANK") (ds := "LWillHouse$Word;") (ref := "") (z := 1210) (by decide +kernel) fl_X4_204 ?_
      
      have lt1 : nb_ T n a < wn_ T n a := by omega
      rw [iC_t lt1] at hb k kx
      have hb9 : ¬ okW T n a 10 → 1 ≤ bc ∧ 6 ≤ bs := fun z => hb (by rw [iC_t z]; show ¬ nb_ T n a = -1; omega)
      have kx9 : ¬ okW T n a 10 → ∀ h' : PH, RX_ h0 v (nb_ T n (nb_ T n a)) h' → Q.2 IAE nN h' := fun z h' X => kx (by rw [iC_t z]; show ¬ nb_ T n a = -1; omega) h' (by rw [iC_t z]; rw [nb_nb a1] at X; exact X)
      refine s_callP (as := [_]) (okW T n (nb_ T n a) 10) (fun q => hb9 (fun z => q ((okW_nb a1).mpr z))) dX4_takeRank_34 vf_X4_142 (dd_ (by omega) (by decide)) rfl rfl (Nat.le_of_ble_eq_true rfl) kl_3 rfl io_2 (fun b1 b2 Q1 hb1 k1 kx1 => ?_)
      refine c_X4_takeThis (j := 10) (by decide) (by omega) (fun q => hb1 q) E RhG1 (by omega) (by omega) (fun okhG2 hhG2 RhG2 => k1 _ _ _ okhG2 ?_) (fun q h' X => kx1 _ _ _ q (kx9 (fun z => q ((okW_nb a1).mpr z)) h' X))
      have hG2 := RhG2.1.1
      have dhG2 := RhG2.2.1
      have phG2 := RhG2.2.2.1.1
      have okw := (okW_nb a1).mp okhG2
      rw [iC_f (nn_i okw)] at hb k kx
      rw [wn_nb a1] at RhG2 dhG2
      refine s_aload_n dX4_takeRank_37 rfl ?_
      refine s_iconst dX4_takeRank_38 ?_
      refine s_iconst dX4_takeRank_39 ?_
      
      refine s_callP (as := [_, _]) (okN T n (wn_ T n a) 1 4) (fun q => hb (by rw [iC_t q]; show ¬ nb_ T n (wn_ T n a) = -1; omega)) dX4_takeRank_40 vf_X4_71 (dd_ (by omega) (by decide)) rfl rfl (Nat.le_of_ble_eq_true rfl) kl_3 rfl io_2 (fun b1 b2 Q1 hb1 k1 kx1 => ?_)
      refine c_X4_takeNumber (by omega) ⟨by decide, by decide⟩ ⟨by decide, by decide⟩ (fun q => hb1 q) E RhG2 (by omega) (by omega) (fun okhG3 hhG3 RhG3 => k1 _ _ _ okhG3 ?_) (fun q h' X => kx1 _ _ _ q (kx (by rw [iC_t q]; show ¬ nb_ T n (wn_ T n a) = -1; omega) h' (by rw [iC_t q]; exact X)))
      have hG3 := RhG3.1.1
      have dhG3 := RhG3.2.1
      have phG3 := RhG3.2.2.1.1
      rw [iC_f (nn_i okhG3)] at k
      exact s_ireturn dX4_takeRank_43 rfl (k rfl _ _ RhG3 okhG3.2.1 okhG3.2.2)
set_option maxRecDepth 100000 in
set_option maxHeartbeats 4000000 in
theorem c_X4_takeEnd  (hd : 8 ≤ d) (hb : ¬ (okE T n a) → 1 ≤ bc ∧ 6 ≤ bs) (E : EV_ h0 v n T) (RhG : RS_ h0 v n m a s y h) (a0 : 0 ≤ a) (a1 : a ≤ n) (k : okE T n a → ∀ h' : PH, RS_ h0 v n m (nb_ T n (nb_ T n a + 1)) s y h' → Q.1 none nN h') (kx : ¬ (okE T n a) → ∀ h' : PH, RX_ h0 v (nb_ T n a) h' → Q.2 IAE nN h') : Cl_ yX4_takeEnd MX4_takeEnd d bc bs [(2, 2)] nN h Q := by
  refine s_enter pn_X4 rfl (Nat.le_of_ble_eq_true rfl) (L := [(2, _)]) rfl ?_
  have hG := RhG.1.1
  have dhG := RhG.2.1
  have phG := RhG.2.2.1.1
  have hn := E.2.1
  have W := ev_w E
  have bd := nb_bd (T := T) a1
  refine s_aload_n dX4_takeEnd_0 rfl ?_
  refine s_callV (d' := d - 1) (bc' := 0) (bs' := 0) (as := []) dX4_takeEnd_1 vf_X4_43 (dd_ (by omega) (by decide)) ⟨Nat.zero_le _, Nat.zero_le _⟩ rfl rfl (Nat.le_of_ble_eq_true rfl) kl_3 rfl io_2 ?_
  refine c_X4_skipBlanks E RhG a0 a1 (fun hhG1 RhG1 => ?_)
  have hG1 := RhG1.1.1
  have dhG1 := RhG1.2.1
  have phG1 := RhG1.2.2.1.1
  have tx := rs_tx E RhG1 (by omega)
  refine s_aload_n dX4_takeEnd_4 rfl ?_
  refine s_aload_n dX4_takeEnd_5 rfl ?_
  refine s_geti dX4_takeEnd_6 fl_X4_36 kl_3 (by decide) rfl io_2 (z := 5) rfl ?_
  refine s_aload_n dX4_takeEnd_9 rfl ?_
  refine s_geti dX4_takeEnd_10 fl_X4_33 kl_3 (by decide) rfl io_2 (z := 4) rfl ?_
  refine s_icmp_ge (tgt := 34) dX4_takeEnd_13 (by decide) (by first | exact hG1.2 _ _ | exact hG.2 _ _ | exact b01_in _ | assumption | exact ⟨by omega, by omega⟩) (by first | exact hG1.2 _ _ | exact hG.2 _ _ | exact b01_in _ | assumption | exact ⟨by omega, by omega⟩) (fun c1 => ?_) (fun c1 => ?_)
  · refine s_iconst dX4_takeEnd_34 ?_
    refine s_aload_n dX4_takeEnd_35 rfl ?_
    refine s_geti dX4_takeEnd_36 fl_X4_36 kl_3 (by decide) rfl io_2 (z := 5) rfl ?_
    
    refine s_callP (as := [_, _]) (okE T n a) (fun q => hb q) dX4_takeEnd_39 vf_X4_108 (dd_ (by omega) (by decide)) rfl rfl (Nat.le_of_ble_eq_true rfl) kl_3 rfl io_2 (fun b1 b2 Q1 hb1 k1 kx1 => ?_)
    exact c_X4_demand (by omega) (fun q => hb1 (fun z => by have z1 := z.1; have z2 := z.2; omega)) RhG1 (hG1.2 _ _) (Or.inl rfl) (f := nb_ T n a) (by omega) (by omega) (fun q => absurd rfl q) (fun q h' X => kx1 _ _ _ (fun z => by have z1 := z.1; have z2 := z.2; omega) (kx (fun z => by have z1 := z.1; have z2 := z.2; omega) h' X))
  · refine s_aload_n dX4_takeEnd_16 rfl ?_
    refine s_getr dX4_takeEnd_17 fl_X4_29 kl_3 (by decide) rfl io_2 (z := 3) rfl (rf_3_3 hG1.1 io_2) (rk_3_3 io_2).1 ?_
    refine s_aload_n dX4_takeEnd_20 rfl ?_
    refine s_geti dX4_takeEnd_21 fl_X4_36 kl_3 (by decide) rfl io_2 (z := 5) rfl ?_
    refine s_baload1 dX4_takeEnd_24 (rk_3_3 io_2) (by omega) (by omega) ?_
    refine s_bipush dX4_takeEnd_25 (by decide) ?_
    refine s_icmp_ne (tgt := 34) dX4_takeEnd_27 (by decide) (by first | exact hG1.2 _ _ | exact hG.2 _ _ | exact b01_in _ | assumption | exact ⟨by omega, by omega⟩) (by first | exact hG1.2 _ _ | exact hG.2 _ _ | exact b01_in _ | assumption | exact ⟨by omega, by omega⟩) (fun c2 => ?_) (fun c2 => ?_)
    · refine s_iconst dX4_takeEnd_34 ?_
      refine s_aload_n dX4_takeEnd_35 rfl ?_
      refine s_geti dX4_takeEnd_36 fl_X4_36 kl_3 (by decide) rfl io_2 (z := 5) rfl ?_
      
      refine s_callP (as := [_, _]) (okE T n a) (fun q => hb q) dX4_takeEnd_39 vf_X4_108 (dd_ (by omega) (by decide)) rfl rfl (Nat.le_of_ble_eq_true rfl) kl_3 rfl io_2 (fun b1 b2 Q1 hb1 k1 kx1 => ?_)
      exact c_X4_demand (by omega) (fun q => hb1 (fun z => by have z1 := z.1; have z2 := z.2; omega)) RhG1 (hG1.2 _ _) (Or.inl rfl) (f := nb_ T n a) (by omega) (by omega) (fun q => absurd rfl q) (fun q h' X => kx1 _ _ _ (fun z => by have z1 := z.1; have z2 := z.2; omega) (kx (fun z => by have z1 := z.1; have z2 := z.2; omega) h' X))
    · refine s_iconst dX4_takeEnd_30 ?_
      refine s_goto (tgt := 35) dX4_takeEnd_31 (by decide) ?_
      refine s_aload_n dX4_takeEnd_35 rfl ?_
      refine s_geti dX4_takeEnd_36 fl_X4_36 kl_3 (by decide) rfl io_2 (z := 5) rfl ?_
      
      refine s_callP (as := [_, _]) (okE T n a) (fun q => hb q) dX4_takeEnd_39 vf_X4_108 (dd_ (by omega) (by decide)) rfl rfl (Nat.le_of_ble_eq_true rfl) kl_3 rfl io_2 (fun b1 b2 Q1 hb1 k1 kx1 => ?_)
      refine c_X4_demand (by omega) (fun q => absurd q (by decide)) RhG1 (hG1.2 _ _) (Or.inr rfl) (f := nb_ T n a) (by omega) (by omega) (fun q => k1 _ _ _ (⟨by omega, by omega⟩) ?_) (fun q => absurd q (by decide))
      refine s_aload_n dX4_takeEnd_42 rfl ?_
      refine s_dup dX4_takeEnd_43 rfl ?_
      refine s_geti dX4_takeEnd_44 fl_X4_36 kl_3 (by decide) rfl io_2 (z := 5) rfl ?_
      refine s_iconst dX4_takeEnd_47 ?_
      refine s_iadd dX4_takeEnd_48 ?_
      refine s_putiG 5 dX4_takeEnd_49 fl_X4_36 kl_3 (by decide) rfl rfl io_2 (z := 5) rfl (by decide +kernel) hG1 (by first | exact hG1.2 _ _ | exact hG.2 _ _ | exact b01_in _ | assumption | exact ⟨by omega, by omega⟩) (fun hG2 => ?_)
      refine s_aload_n dX4_takeEnd_52 rfl ?_
      refine s_callV (d' := d - 1) (bc' := 0) (bs' := 0) (as := []) dX4_takeEnd_53 vf_X4_43 (dd_ (by omega) (by decide)) ⟨Nat.zero_le _, Nat.zero_le _⟩ rfl rfl (Nat.le_of_ble_eq_true rfl) kl_3 rfl io_2 ?_
      have ok9 : okE T n a := ⟨by omega, by omega⟩
      have R9 := rs_at (a' := nb_ T n a + 1) E RhG1 hG2 (by omega)
      exact c_X4_skipBlanks E R9 (by omega) (by omega) (fun h9 R99 => s_return dX4_takeEnd_56 rfl (k ok9 _ R99))
end X4B
