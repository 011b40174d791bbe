/-! WillHouse$Reader: lines, one behind the other -/
section X4E
variable {d bc bs : Nat} {Q : PQ} {h0 h y : PH} {v n m a s : Int} {T : Int → Int}
theorem sw_at : ∀ j : Nat, j < 24 → ((j = 0 ∧ swm_.getD j 0 = 1) ∨ (j = 1 ∧ swm_.getD j 0 = 2) ∨ (j = 2 ∧ swm_.getD j 0 = 3) ∨ (j = 3 ∧ swm_.getD j 0 = 4) ∨ (j = 4 ∧ swm_.getD j 0 = 5) ∨ (j = 5 ∧ swm_.getD j 0 = 6) ∨ (j = 7 ∧ swm_.getD j 0 = 7) ∨ (j = 9 ∧ swm_.getD j 0 = 8) ∨ (j = 11 ∧ swm_.getD j 0 = 9) ∨ (j = 12 ∧ swm_.getD j 0 = 10) ∨ (j = 13 ∧ swm_.getD j 0 = 11) ∨ (j = 15 ∧ swm_.getD j 0 = 12) ∨ (j = 16 ∧ swm_.getD j 0 = 13) ∨ (j = 18 ∧ swm_.getD j 0 = 14) ∨ (j = 19 ∧ swm_.getD j 0 = 15) ∨ (j = 20 ∧ swm_.getD j 0 = 16) ∨ (j = 21 ∧ swm_.getD j 0 = 17) ∨ ((j = 6 ∨ j = 8 ∨ j = 10 ∨ j = 14 ∨ j = 17 ∨ j = 22 ∨ j = 23) ∧ swm_.getD j 0 = 0)) := by
  intro j hj
  rcases (by omega : j = 0 ∨ j = 1 ∨ j = 2 ∨ j = 3 ∨ j = 4 ∨ j = 5 ∨ j = 6 ∨ j = 7 ∨ j = 8 ∨ j = 9 ∨ j = 10 ∨ j = 11 ∨ j = 12 ∨ j = 13 ∨ j = 14 ∨ j = 15 ∨ j = 16 ∨ j = 17 ∨ j = 18 ∨ j = 19 ∨ j = 20 ∨ j = 21 ∨ j = 22 ∨ j = 23) with rfl | rfl | rfl | rfl | rfl | rfl | rfl | rfl | rfl | rfl | rfl | rfl | rfl | rfl | rfl | rfl | rfl | rfl | rfl | rfl | rfl | rfl | rfl | rfl
  · exact Or.inl ⟨rfl, rfl⟩
  · exact Or.inr (Or.inl ⟨rfl, rfl⟩)
  · exact Or.inr (Or.inr (Or.inl ⟨rfl, rfl⟩))
  · exact Or.inr (Or.inr (Or.inr (Or.inl ⟨rfl, rfl⟩)))
  · exact Or.inr (Or.inr (Or.inr (Or.inr (Or.inl ⟨rfl, rfl⟩))))
  · exact Or.inr (Or.inr (Or.inr (Or.inr (Or.inr (Or.inl ⟨rfl, rfl⟩)))))
  · exact Or.inr (Or.inr (Or.inr (Or.inr (Or.inr (Or.inr (Or.inr (Or.inr (Or.inr (Or.inr (Or.inr (Or.inr (Or.inr (Or.inr (Or.inr (Or.inr (Or.inr (⟨by decide, rfl⟩)))))))))))))))))
  · exact Or.inr (Or.inr (Or.inr (Or.inr (Or.inr (Or.inr (Or.inl ⟨rfl, rfl⟩))))))
  · exact Or.inr (Or.inr (Or.inr (Or.inr (Or.inr (Or.inr (Or.inr (Or.inr (Or.inr (Or.inr (Or.inr (Or.inr (Or.inr (Or.inr (Or.inr (Or.inr (Or.inr (⟨by decide, rfl⟩)))))))))))))))))
  · exact Or.inr (Or.inr (Or.inr (Or.inr (Or.inr (Or.inr (Or.inr (Or.inl ⟨rfl, rfl⟩)))))))
  · exact Or.inr (Or.inr (Or.inr (Or.inr (Or.inr (Or.inr (Or.inr (Or.inr (Or.inr (Or.inr (Or.inr (Or.inr (Or.inr (Or.inr (Or.inr (Or.inr (Or.inr (⟨by decide, rfl⟩)))))))))))))))))
  · exact Or.inr (Or.inr (Or.inr (Or.inr (Or.inr (Or.inr (Or.inr (Or.inr (Or.inl ⟨rfl, rfl⟩))))))))
  · exact Or.inr (Or.inr (Or.inr (Or.inr (Or.inr (Or.inr (Or.inr (Or.inr (Or.inr (Or.inl ⟨rfl, rfl⟩)))))))))
  · exact Or.inr (Or.inr (Or.inr (Or.inr (Or.inr (Or.inr (Or.inr (Or.inr (Or.inr (Or.inr (Or.inl ⟨rfl, rfl⟩))))))))))
  · exact Or.inr (Or.inr (Or.inr (Or.inr (Or.inr (Or.inr (Or.inr (Or.inr (Or.inr (Or.inr (Or.inr (Or.inr (Or.inr (Or.inr (Or.inr (Or.inr (Or.inr (⟨by decide, rfl⟩)))))))))))))))))
  · exact Or.inr (Or.inr (Or.inr (Or.inr (Or.inr (Or.inr (Or.inr (Or.inr (Or.inr (Or.inr (Or.inr (Or.inl ⟨rfl, rfl⟩)))))))))))
  · exact Or.inr (Or.inr (Or.inr (Or.inr (Or.inr (Or.inr (Or.inr (Or.inr (Or.inr (Or.inr (Or.inr (Or.inr (Or.inl ⟨rfl, rfl⟩))))))))))))
  · exact Or.inr (Or.inr (Or.inr (Or.inr (Or.inr (Or.inr (Or.inr (Or.inr (Or.inr (Or.inr (Or.inr (Or.inr (Or.inr (Or.inr (Or.inr (Or.inr (Or.inr (⟨by decide, rfl⟩)))))))))))))))))
  · exact Or.inr (Or.inr (Or.inr (Or.inr (Or.inr (Or.inr (Or.inr (Or.inr (Or.inr (Or.inr (Or.inr (Or.inr (Or.inr (Or.inl ⟨rfl, rfl⟩)))))))))))))
  · exact Or.inr (Or.inr (Or.inr (Or.inr (Or.inr (Or.inr (Or.inr (Or.inr (Or.inr (Or.inr (Or.inr (Or.inr (Or.inr (Or.inr (Or.inl ⟨rfl, rfl⟩))))))))))))))
  · exact Or.inr (Or.inr (Or.inr (Or.inr (Or.inr (Or.inr (Or.inr (Or.inr (Or.inr (Or.inr (Or.inr (Or.inr (Or.inr (Or.inr (Or.inr (Or.inl ⟨rfl, rfl⟩)))))))))))))))
  · exact Or.inr (Or.inr (Or.inr (Or.inr (Or.inr (Or.inr (Or.inr (Or.inr (Or.inr (Or.inr (Or.inr (Or.inr (Or.inr (Or.inr (Or.inr (Or.inr (Or.inl ⟨rfl, rfl⟩))))))))))))))))
  · exact Or.inr (Or.inr (Or.inr (Or.inr (Or.inr (Or.inr (Or.inr (Or.inr (Or.inr (Or.inr (Or.inr (Or.inr (Or.inr (Or.inr (Or.inr (Or.inr (Or.inr (⟨by decide, rfl⟩)))))))))))))))))
  · exact Or.inr (Or.inr (Or.inr (Or.inr (Or.inr (Or.inr (Or.inr (Or.inr (Or.inr (Or.inr (Or.inr (Or.inr (Or.inr (Or.inr (Or.inr (Or.inr (Or.inr (⟨by decide, rfl⟩)))))))))))))))))
theorem ot_e {u : OU} {Q1 : PQ} {b1 b2 : Nat} (K : OT_ Q bc bs h0 v n (pEnd T n u)) (hb1 : ¬ u.1 = -1 → 1 ≤ b1 ∧ 6 ≤ b2) (kx1 : ∀ h' : PH, ¬ u.1 = -1 → Q.2 IAE nN h' → Q1.2 IAE nN h') (k1 : u.1 = -1 → ∀ (s' : Int) (h' : PH), 0 ≤ u.2.1 → u.2.1 ≤ n → RS_ h0 v n (u.2.2 0 1) u.2.1 s' u.2.2 h' → Q1.1 none nN h') : OT_ Q1 b1 b2 h0 v n u :=
  ⟨k1, fun e => ⟨hb1 e, fun h' X => kx1 h' e (((ot_f K e).2 e).2 h' X)⟩⟩
set_option maxRecDepth 100000 in
set_option maxHeartbeats 4000000 in
theorem tl_X4_readLine {u : OU} (hd : 12 ≤ d) (E : EV_ h0 v n T) (K : OT_ Q bc bs h0 v n (pEnd T n u)) (e : u.1 = -1) (u0 : 0 ≤ u.2.1) (u1 : u.2.1 ≤ n) (RhG : RS_ h0 v n (u.2.2 0 1) u.2.1 s u.2.2 h) : S_ MX4_readLine d bc bs Q 286 [(2, 2)] [] nN h := by
  have K := ot_t K e
  have hG := RhG.1.1
  have dhG := RhG.2.1
  have phG := RhG.2.2.1.1
  have hn := E.2.1
  have W := ev_w E
  have bd := nb_bd (T := T) u1
  refine s_aload_n dX4_readLine_286 rfl ?_
  
  refine s_callP (as := []) (okE T n u.2.1) (fun q => (ot_x (ot_f K q) (by omega)).1) dX4_readLine_287 vf_X4_112 (dd_ (by omega) (by decide)) rfl rfl (Nat.le_of_ble_eq_true rfl) kl_3 rfl io_2 (fun b1 b2 Q1 hb1 k1 kx1 => ?_)
  refine c_X4_takeEnd (by omega) (fun q => hb1 q) E RhG u0 u1 (fun okhG1 hhG1 RhG1 => k1 _ _ _ okhG1 ?_) (fun q h' X => kx1 _ _ _ q ((ot_x (ot_f K q) (by omega)).2 h' X))
  have hG1 := RhG1.1.1
  have dhG1 := RhG1.2.1
  have phG1 := RhG1.2.2.1.1
  have K := ot_t K okhG1
  have be := nb_bd (T := T) (n := n) (a := nb_ T n u.2.1 + 1) (by have := okhG1.1; omega)
  exact s_return dX4_readLine_290 rfl (ot_ok K rfl (by omega) (by omega) RhG1)
set_option maxRecDepth 100000 in
set_option maxHeartbeats 4000000 in
theorem c_X4_readLine  (hd : 12 ≤ d) (E : EV_ h0 v n T) (RhG : RS_ h0 v n (y 0 1) a s y h) (a0 : 0 ≤ a) (a1 : a ≤ n) (K : OT_ Q bc bs h0 v n (pLine T n a y))  : Cl_ yX4_readLine MX4_readLine d bc bs [(2, 2)] nN h Q := by
  refine s_enter pn_X4 rfl (Nat.le_of_ble_eq_true rfl) (L := [(2, _)]) rfl ?_
  have hG := RhG.1.1
  have dhG := RhG.2.1
  have phG := RhG.2.2.1.1
  have hn := E.2.1
  have W := ev_w E
  unfold pLine at K
  have bd := wn_bd (T := T) a1
  have bn := dn_bd (T := T) (n := n) (a := wn_ T n a) (by omega)
  have iT := RhG.2.2.2.2.2.2.1
  have nv := nv_bd (T := T) (n := n) (s := nb_ T n (wn_ T n a))
  refine s_aload_n dX4_readLine_0 rfl ?_
  
  refine s_callP (as := []) (nb_ T n a < wn_ T n a) (fun q => (ot_x (ot_f K q) (by omega)).1) dX4_readLine_1 vf_X4_46 (dd_ (by omega) (by decide)) rfl rfl (Nat.le_of_ble_eq_true rfl) kl_3 rfl io_2 (fun b1 b2 Q1 hb1 k1 kx1 => ?_)
  refine c_X4_takeWord (by omega) (fun q => hb1 q) E RhG a0 a1 (fun okhG1 hhG1 RhG1 => k1 _ _ _ okhG1 ?_) (fun q h' X => kx1 _ _ _ q ((ot_x (ot_f K q) (by omega)).2 h' X))
  have hG1 := RhG1.1.1
  have dhG1 := RhG1.2.1
  have phG1 := RhG1.2.2.1.1
  have K := ot_t K okhG1
  have wl := wi_le (T := T) (s := nb_ T n a) (l := wn_ T n a - nb_ T n a)
  have sw := sw_at (wi_ T (nb_ T n a) (wn_ T n a - nb_ T n a)) (by omega)
  have K : OT_ Q bc bs h0 v n (pEnd T n (pBody (wi_ T (nb_ T n a) (wn_ T n a - nb_ T n a)) T n (nb_ T n a) (wn_ T n a) y)) := K
  generalize hj : wi_ T (nb_ T n a) (wn_ T n a - nb_ T n a) = j at K sw wl
  generalize hx : swm_.getD j 0 = x at sw
  refine s_getsr dX4_readLine_4 (C := "WillHouse$1") (nm := "$SwitchMap$WillHouse$Word") (ds := "[I") (ref := "") (z := 1301) (by decide +kernel) fl_X4_49 ?_
  refine s_aload_n dX4_readLine_7 rfl ?_
  refine s_callV (d' := d - 1) (bc' := 0) (bs' := 0) (as := []) dX4_readLine_8 vf_X4_55 (dd_ (by omega) (by decide)) ⟨Nat.zero_le _, Nat.zero_le _⟩ rfl rfl (Nat.le_of_ble_eq_true rfl) kl_3 rfl io_2 ?_
  refine c_X4_takenWord (by omega) E RhG1 (by omega) (by omega) (by omega) ?_
  rw [hj]
  refine e_callKU (d' := d - 1) (bc' := 0) (bs' := 0) (as := []) nh_0 (kx_wo (by omega)) dX4_readLine_11 uf_X4_59 (dd_ (by omega) (by decide)) ⟨Nat.zero_le _, Nat.zero_le _⟩ rfl rfl (Nat.le_of_ble_eq_true rfl) ?_
  refine c_Jx29ce0_ordinal_8abf5 (by omega) ?_
  refine s_kiaload dX4_readLine_14 (f := fun i => swm_.getD i 0) (fun _ _ _ ad K => K.2.2.2.2.2.1) (by omega) (by omega) (by omega) (v := x) (by rw [← hx]; simp) ?_
  rcases (by omega : x = 1 ∨ x = 2 ∨ x = 3 ∨ x = 4 ∨ x = 5 ∨ x = 6 ∨ x = 7 ∨ x = 8 ∨ x = 9 ∨ x = 10 ∨ x = 11 ∨ x = 12 ∨ x = 13 ∨ x = 14 ∨ x = 15 ∨ x = 16 ∨ x = 17 ∨ (x < 1 ∨ 17 < x)) with rfl | rfl | rfl | rfl | rfl | rfl | rfl | rfl | rfl | rfl | rfl | rfl | rfl | rfl | rfl | rfl | rfl | c1
  · refine s_tabIn (tgt := 96) dX4_readLine_15 (by first | exact hG1.2 _ _ | exact hG.2 _ _ | exact b01_in _ | assumption | exact ⟨by omega, by omega⟩) (by decide) (by decide) rfl (by decide) ?_
    have ej : j = 0 := by omega
    rw [ej, pb_0] at K
    refine s_aload_n dX4_readLine_96 rfl ?_
    
    have K1 := K
    refine s_callP (as := []) ((pThing T n (nb_ T n a) (wn_ T n a) y).1 = -1) (fun q => ((ot_f K1 q).2 q).1) dX4_readLine_97 vf_X4_65 (dd_ (by omega) (by decide)) rfl rfl (Nat.le_of_ble_eq_true rfl) kl_3 rfl io_2 (fun b1 b2 Q1 hb1 k1 kx1 => ?_)
    refine c_X4_readThing (by omega) E RhG1 (by omega) (by omega) (by omega) (by omega) (ot_e K1 (fun q => hb1 q) (fun h' q z => kx1 _ _ _ q z) (fun e s9 h9 u0 u1 R9 => k1 _ _ _ e ?_))
    refine s_goto (tgt := 286) dX4_readLine_100 (by decide) ?_
    first | exact tl_X4_readLine (by omega) E K1 e u0 u1 R9 | exact tl_X4_readLine (by omega) E K rfl (by show 0 ≤ dn_ T n (wn_ T n a); omega) (by show dn_ T n (wn_ T n a) ≤ n; omega) R9
  · refine s_tabIn (tgt := 103) dX4_readLine_15 (by first | exact hG1.2 _ _ | exact hG.2 _ _ | exact b01_in _ | assumption | exact ⟨by omega, by omega⟩) (by decide) (by decide) rfl (by decide) ?_
    have ej : j = 1 := by omega
    rw [ej, pb_1] at K
    refine s_aload_n dX4_readLine_103 rfl ?_
    refine s_getr dX4_readLine_104 fl_X4_21 kl_3 (by decide) rfl io_2 (z := 1) rfl (rf_3_1 hG1.1 io_2) (rk_3_1 io_2).1 ?_
    refine s_iconst dX4_readLine_107 ?_
    refine s_aload_n dX4_readLine_108 rfl ?_
    refine s_iconst dX4_readLine_109 ?_
    refine s_getsrN dX4_readLine_110 (C := "WillHouse") (nm := "MOST_TOLD") (ds := "[I") (z := 1302) (by decide +kernel) fn_X4_68 ?_
    refine s_iconst dX4_readLine_113 ?_
    refine s_kiaload dX4_readLine_114 (f := fun i => mtd_.getD i 0) (fun _ _ _ ad K => K.2.2.2.2.2.2.1) (by omega) (by omega) (by omega) (v := 99999) (by decide) ?_
    
    have e9 : pTold 0 99999 T n (wn_ T n a) y = iC (¬ okN T n (wn_ T n a) 0 99999) (nb_ T n (wn_ T n a), (wn_ T n a), y) (-1, dn_ T n (wn_ T n a), zput y (fu_ (y 1) (56 + 0) (dv_ T n (wn_ T n a)))) := rfl
    refine s_callP (as := [_, _]) (okN T n (wn_ T n a) 0 99999) (fun q => (ot_x (f := nb_ T n (wn_ T n a)) (by have K2 := K; rw [e9, iC_t q] at K2; exact ot_f K2 (show ¬ nb_ T n (wn_ T n a) = -1 by omega)) (by omega)).1) dX4_readLine_115 vf_X4_71 (dd_ (by omega) (by decide)) rfl rfl (Nat.le_of_ble_eq_true rfl) kl_3 rfl io_2 (fun b1 b2 Q1 hb1 k1 kx1 => ?_)
    refine c_X4_takeNumber (by omega) ⟨by omega, by omega⟩ ⟨by omega, by omega⟩ (fun q => hb1 q) E RhG1 (by omega) (by omega) (fun okhG2 hhG2 RhG2 => k1 _ _ _ okhG2 ?_) (fun q h' X => kx1 _ _ _ q ((ot_x (f := nb_ T n (wn_ T n a)) (by have K2 := K; rw [e9, iC_t q] at K2; exact ot_f K2 (show ¬ nb_ T n (wn_ T n a) = -1 by omega)) (by omega)).2 h' X))
    have hG2 := RhG2.1.1
    have dhG2 := RhG2.2.1
    have phG2 := RhG2.2.2.1.1
    have o9 := okhG2.2
    rw [e9, iC_f (nn_i okhG2)] at K
    refine s_callV (d' := d - 1) (bc' := 0) (bs' := 0) (as := [_, _]) dX4_readLine_118 vf_X4_75 (dd_ (by omega) (by decide)) ⟨Nat.zero_le _, Nat.zero_le _⟩ rfl rfl (Nat.le_of_ble_eq_true rfl) kl_1 rfl (rk_3_1 io_2) ?_
    refine c_X2_putTold (rk_3_1 io_2) hG2 (by omega) (by omega) ⟨by omega, by omega⟩ ?_
    have e1 : (zput y (fu_ (y 1) (56 + 0) (dv_ T n (wn_ T n a)))) 0 1 = y 0 1 := by rw [zput_ne (by omega)]
    have R9 := rs_fu (k := 56 + 0) (w := dv_ T n (wn_ T n a)) E RhG2 (by unfold zok; omega)
    rw [← e1] at R9
    refine s_goto (tgt := 286) dX4_readLine_121 (by decide) ?_
    first | exact tl_X4_readLine (by omega) E K1 e u0 u1 R9 | exact tl_X4_readLine (by omega) E K rfl (by show 0 ≤ dn_ T n (wn_ T n a); omega) (by show dn_ T n (wn_ T n a) ≤ n; omega) R9
  · refine s_tabIn (tgt := 124) dX4_readLine_15 (by first | exact hG1.2 _ _ | exact hG.2 _ _ | exact b01_in _ | assumption | exact ⟨by omega, by omega⟩) (by decide) (by decide) rfl (by decide) ?_
    have ej : j = 2 := by omega
    rw [ej, pb_2] at K
    refine s_aload_n dX4_readLine_124 rfl ?_
    refine s_getr dX4_readLine_125 fl_X4_21 kl_3 (by decide) rfl io_2 (z := 1) rfl (rf_3_1 hG1.1 io_2) (rk_3_1 io_2).1 ?_
    refine s_iconst dX4_readLine_128 ?_
    refine s_aload_n dX4_readLine_129 rfl ?_
    refine s_iconst dX4_readLine_130 ?_
    refine s_getsrN dX4_readLine_131 (C := "WillHouse") (nm := "MOST_TOLD") (ds := "[I") (z := 1302) (by decide +kernel) fn_X4_68 ?_
    refine s_iconst dX4_readLine_134 ?_
    refine s_kiaload dX4_readLine_135 (f := fun i => mtd_.getD i 0) (fun _ _ _ ad K => K.2.2.2.2.2.2.1) (by omega) (by omega) (by omega) (v := 99999) (by decide) ?_
    
    have e9 : pTold 1 99999 T n (wn_ T n a) y = iC (¬ okN T n (wn_ T n a) 0 99999) (nb_ T n (wn_ T n a), (wn_ T n a), y) (-1, dn_ T n (wn_ T n a), zput y (fu_ (y 1) (56 + 1) (dv_ T n (wn_ T n a)))) := rfl
    refine s_callP (as := [_, _]) (okN T n (wn_ T n a) 0 99999) (fun q => (ot_x (f := nb_ T n (wn_ T n a)) (by have K2 := K; rw [e9, iC_t q] at K2; exact ot_f K2 (show ¬ nb_ T n (wn_ T n a) = -1 by omega)) (by omega)).1) dX4_readLine_136 vf_X4_71 (dd_ (by omega) (by decide)) rfl rfl (Nat.le_of_ble_eq_true rfl) kl_3 rfl io_2 (fun b1 b2 Q1 hb1 k1 kx1 => ?_)
    refine c_X4_takeNumber (by omega) ⟨by omega, by omega⟩ ⟨by omega, by omega⟩ (fun q => hb1 q) E RhG1 (by omega) (by omega) (fun okhG3 hhG3 RhG3 => k1 _ _ _ okhG3 ?_) (fun q h' X => kx1 _ _ _ q ((ot_x (f := nb_ T n (wn_ T n a)) (by have K2 := K; rw [e9, iC_t q] at K2; exact ot_f K2 (show ¬ nb_ T n (wn_ T n a) = -1 by omega)) (by omega)).2 h' X))
    have hG3 := RhG3.1.1
    have dhG3 := RhG3.2.1
    have phG3 := RhG3.2.2.1.1
    have o9 := okhG3.2
    rw [e9, iC_f (nn_i okhG3)] at K
    refine s_callV (d' := d - 1) (bc' := 0) (bs' := 0) (as := [_, _]) dX4_readLine_139 vf_X4_75 (dd_ (by omega) (by decide)) ⟨Nat.zero_le _, Nat.zero_le _⟩ rfl rfl (Nat.le_of_ble_eq_true rfl) kl_1 rfl (rk_3_1 io_2) ?_
    refine c_X2_putTold (rk_3_1 io_2) hG3 (by omega) (by omega) ⟨by omega, by omega⟩ ?_
    have e1 : (zput y (fu_ (y 1) (56 + 1) (dv_ T n (wn_ T n a)))) 0 1 = y 0 1 := by rw [zput_ne (by omega)]
    have R9 := rs_fu (k := 56 + 1) (w := dv_ T n (wn_ T n a)) E RhG3 (by unfold zok; omega)
    rw [← e1] at R9
    refine s_goto (tgt := 286) dX4_readLine_142 (by decide) ?_
    first | exact tl_X4_readLine (by omega) E K1 e u0 u1 R9 | exact tl_X4_readLine (by omega) E K rfl (by show 0 ≤ dn_ T n (wn_ T n a); omega) (by show dn_ T n (wn_ T n a) ≤ n; omega) R9
  · refine s_tabIn (tgt := 145) dX4_readLine_15 (by first | exact hG1.2 _ _ | exact hG.2 _ _ | exact b01_in _ | assumption | exact ⟨by omega, by omega⟩) (by decide) (by decide) rfl (by decide) ?_
    have ej : j = 3 := by omega
    rw [ej, pb_3] at K
    refine s_aload_n dX4_readLine_145 rfl ?_
    refine s_iconst dX4_readLine_146 ?_
    
    have K1 := K
    refine s_callP (as := [_]) ((pPerson 1 T n (nb_ T n a) (wn_ T n a) y).1 = -1) (fun q => ((ot_f K1 q).2 q).1) dX4_readLine_147 vf_X4_79 (dd_ (by omega) (by decide)) rfl rfl (Nat.le_of_ble_eq_true rfl) kl_3 rfl io_2 (fun b1 b2 Q1 hb1 k1 kx1 => ?_)
    refine c_X4_readPerson (c := 1) (Or.inr rfl) (by omega) E RhG1 (by omega) (by omega) (by omega) (by omega) (ot_e K1 (fun q => hb1 q) (fun h' q z => kx1 _ _ _ q z) (fun e s9 h9 u0 u1 R9 => k1 _ _ _ e ?_))
    refine s_goto (tgt := 286) dX4_readLine_150 (by decide) ?_
    first | exact tl_X4_readLine (by omega) E K1 e u0 u1 R9 | exact tl_X4_readLine (by omega) E K rfl (by show 0 ≤ dn_ T n (wn_ T n a); omega) (by show dn_ T n (wn_ T n a) ≤ n; omega) R9
  · refine s_tabIn (tgt := 153) dX4_readLine_15 (by first | exact hG1.2 _ _ | exact hG.2 _ _ | exact b01_in _ | assumption | exact ⟨by omega, by omega⟩) (by decide) (by decide) rfl (by decide) ?_
    have ej : j = 4 := by omega
    rw [ej, pb_4] at K
    refine s_aload_n dX4_readLine_153 rfl ?_
    refine s_iconst dX4_readLine_154 ?_
    
    have K1 := K
    refine s_callP (as := [_]) ((pPerson 0 T n (nb_ T n a) (wn_ T n a) y).1 = -1) (fun q => ((ot_f K1 q).2 q).1) dX4_readLine_155 vf_X4_79 (dd_ (by omega) (by decide)) rfl rfl (Nat.le_of_ble_eq_true rfl) kl_3 rfl io_2 (fun b1 b2 Q1 hb1 k1 kx1 => ?_)
    refine c_X4_readPerson (c := 0) (Or.inl rfl) (by omega) E RhG1 (by omega) (by omega) (by omega) (by omega) (ot_e K1 (fun q => hb1 q) (fun h' q z => kx1 _ _ _ q z) (fun e s9 h9 u0 u1 R9 => k1 _ _ _ e ?_))
    refine s_goto (tgt := 286) dX4_readLine_158 (by decide) ?_
    first | exact tl_X4_readLine (by omega) E K1 e u0 u1 R9 | exact tl_X4_readLine (by omega) E K rfl (by show 0 ≤ dn_ T n (wn_ T n a); omega) (by show dn_ T n (wn_ T n a) ≤ n; omega) R9
  · refine s_tabIn (tgt := 161) dX4_readLine_15 (by first | exact hG1.2 _ _ | exact hG.2 _ _ | exact b01_in _ | assumption | exact ⟨by omega, by omega⟩) (by decide) (by decide) rfl (by decide) ?_
    have ej : j = 5 := by omega
    rw [ej, pb_5] at K
    refine s_aload_n dX4_readLine_161 rfl ?_
    
    have K1 := K
    refine s_callP (as := []) ((pIssue T n (nb_ T n a) (wn_ T n a) y).1 = -1) (fun q => ((ot_f K1 q).2 q).1) dX4_readLine_162 vf_X4_83 (dd_ (by omega) (by decide)) rfl rfl (Nat.le_of_ble_eq_true rfl) kl_3 rfl io_2 (fun b1 b2 Q1 hb1 k1 kx1 => ?_)
    refine c_X4_readIssue (by omega) E RhG1 (by omega) (by omega) (by omega) (by omega) (ot_e K1 (fun q => hb1 q) (fun h' q z => kx1 _ _ _ q z) (fun e s9 h9 u0 u1 R9 => k1 _ _ _ e ?_))
    refine s_goto (tgt := 286) dX4_readLine_165 (by decide) ?_
    first | exact tl_X4_readLine (by omega) E K1 e u0 u1 R9 | exact tl_X4_readLine (by omega) E K rfl (by show 0 ≤ dn_ T n (wn_ T n a); omega) (by show dn_ T n (wn_ T n a) ≤ n; omega) R9
  · refine s_tabIn (tgt := 168) dX4_readLine_15 (by first | exact hG1.2 _ _ | exact hG.2 _ _ | exact b01_in _ | assumption | exact ⟨by omega, by omega⟩) (by decide) (by decide) rfl (by decide) ?_
    have ej : j = 7 := by omega
    rw [ej, pb_7] at K
    refine s_aload_n dX4_readLine_168 rfl ?_
    refine s_iconst dX4_readLine_169 ?_
    
    have K1 := K
    refine s_callP (as := [_]) ((pGift 0 T n (nb_ T n a) (wn_ T n a) y).1 = -1) (fun q => ((ot_f K1 q).2 q).1) dX4_readLine_170 vf_X4_86 (dd_ (by omega) (by decide)) rfl rfl (Nat.le_of_ble_eq_true rfl) kl_3 rfl io_2 (fun b1 b2 Q1 hb1 k1 kx1 => ?_)
    refine c_X4_readGift0 (by omega) E RhG1 (by omega) (by omega) (by omega) (by omega) (ot_e K1 (fun q => hb1 q) (fun h' q z => kx1 _ _ _ q z) (fun e s9 h9 u0 u1 R9 => k1 _ _ _ e ?_))
    refine s_goto (tgt := 286) dX4_readLine_173 (by decide) ?_
    first | exact tl_X4_readLine (by omega) E K1 e u0 u1 R9 | exact tl_X4_readLine (by omega) E K rfl (by show 0 ≤ dn_ T n (wn_ T n a); omega) (by show dn_ T n (wn_ T n a) ≤ n; omega) R9
  · refine s_tabIn (tgt := 176) dX4_readLine_15 (by first | exact hG1.2 _ _ | exact hG.2 _ _ | exact b01_in _ | assumption | exact ⟨by omega, by omega⟩) (by decide) (by decide) rfl (by decide) ?_
    have ej : j = 9 := by omega
    rw [ej, pb_9] at K
    refine s_aload_n dX4_readLine_176 rfl ?_
    refine s_iconst dX4_readLine_177 ?_
    
    have K1 := K
    refine s_callP (as := [_]) ((pGift 1 T n (nb_ T n a) (wn_ T n a) y).1 = -1) (fun q => ((ot_f K1 q).2 q).1) dX4_readLine_178 vf_X4_86 (dd_ (by omega) (by decide)) rfl rfl (Nat.le_of_ble_eq_true rfl) kl_3 rfl io_2 (fun b1 b2 Q1 hb1 k1 kx1 => ?_)
    refine c_X4_readGift1 (by omega) E RhG1 (by omega) (by omega) (by omega) (by omega) (ot_e K1 (fun q => hb1 q) (fun h' q z => kx1 _ _ _ q z) (fun e s9 h9 u0 u1 R9 => k1 _ _ _ e ?_))
    refine s_goto (tgt := 286) dX4_readLine_181 (by decide) ?_
    first | exact tl_X4_readLine (by omega) E K1 e u0 u1 R9 | exact tl_X4_readLine (by omega) E K rfl (by show 0 ≤ dn_ T n (wn_ T n a); omega) (by show dn_ T n (wn_ T n a) ≤ n; omega) R9
  · refine s_tabIn (tgt := 184) dX4_readLine_15 (by first | exact hG1.2 _ _ | exact hG.2 _ _ | exact b01_in _ | assumption | exact ⟨by omega, by omega⟩) (by decide) (by decide) rfl (by decide) ?_
    have ej : j = 11 := by omega
    rw [ej, pb_11] at K
    refine s_aload_n dX4_readLine_184 rfl ?_
    refine s_iconst dX4_readLine_185 ?_
    
    have K1 := K
    refine s_callP (as := [_]) ((pGift 2 T n (nb_ T n a) (wn_ T n a) y).1 = -1) (fun q => ((ot_f K1 q).2 q).1) dX4_readLine_186 vf_X4_86 (dd_ (by omega) (by decide)) rfl rfl (Nat.le_of_ble_eq_true rfl) kl_3 rfl io_2 (fun b1 b2 Q1 hb1 k1 kx1 => ?_)
    refine c_X4_readGift2 (by omega) E RhG1 (by omega) (by omega) (by omega) (by omega) (ot_e K1 (fun q => hb1 q) (fun h' q z => kx1 _ _ _ q z) (fun e s9 h9 u0 u1 R9 => k1 _ _ _ e ?_))
    refine s_goto (tgt := 286) dX4_readLine_189 (by decide) ?_
    first | exact tl_X4_readLine (by omega) E K1 e u0 u1 R9 | exact tl_X4_readLine (by omega) E K rfl (by show 0 ≤ dn_ T n (wn_ T n a); omega) (by show dn_ T n (wn_ T n a) ≤ n; omega) R9
  · refine s_tabIn (tgt := 192) dX4_readLine_15 (by first | exact hG1.2 _ _ | exact hG.2 _ _ | exact b01_in _ | assumption | exact ⟨by omega, by omega⟩) (by decide) (by decide) rfl (by decide) ?_
    have ej : j = 12 := by omega
    rw [ej, pb_12] at K
    refine s_aload_n dX4_readLine_192 rfl ?_
    refine s_iconst dX4_readLine_193 ?_
    
    have K1 := K
    refine s_callP (as := [_]) ((pGift 3 T n (nb_ T n a) (wn_ T n a) y).1 = -1) (fun q => ((ot_f K1 q).2 q).1) dX4_readLine_194 vf_X4_86 (dd_ (by omega) (by decide)) rfl rfl (Nat.le_of_ble_eq_true rfl) kl_3 rfl io_2 (fun b1 b2 Q1 hb1 k1 kx1 => ?_)
    refine c_X4_readGift3 (by omega) E RhG1 (by omega) (by omega) (by omega) (by omega) (ot_e K1 (fun q => hb1 q) (fun h' q z => kx1 _ _ _ q z) (fun e s9 h9 u0 u1 R9 => k1 _ _ _ e ?_))
    refine s_goto (tgt := 286) dX4_readLine_197 (by decide) ?_
    first | exact tl_X4_readLine (by omega) E K1 e u0 u1 R9 | exact tl_X4_readLine (by omega) E K rfl (by show 0 ≤ dn_ T n (wn_ T n a); omega) (by show dn_ T n (wn_ T n a) ≤ n; omega) R9
  · refine s_tabIn (tgt := 200) dX4_readLine_15 (by first | exact hG1.2 _ _ | exact hG.2 _ _ | exact b01_in _ | assumption | exact ⟨by omega, by omega⟩) (by decide) (by decide) rfl (by decide) ?_
    have ej : j = 13 := by omega
    rw [ej, pb_13] at K
    refine s_aload_n dX4_readLine_200 rfl ?_
    
    have K1 := K
    refine s_callP (as := []) ((pSold T n (wn_ T n a) y).1 = -1) (fun q => ((ot_f K1 q).2 q).1) dX4_readLine_201 vf_X4_90 (dd_ (by omega) (by decide)) rfl rfl (Nat.le_of_ble_eq_true rfl) kl_3 rfl io_2 (fun b1 b2 Q1 hb1 k1 kx1 => ?_)
    refine c_X4_readSold (by omega) E RhG1 (by omega) (by omega) (by omega) (by omega) (ot_e K1 (fun q => hb1 q) (fun h' q z => kx1 _ _ _ q z) (fun e s9 h9 u0 u1 R9 => k1 _ _ _ e ?_))
    refine s_goto (tgt := 286) dX4_readLine_204 (by decide) ?_
    first | exact tl_X4_readLine (by omega) E K1 e u0 u1 R9 | exact tl_X4_readLine (by omega) E K rfl (by show 0 ≤ dn_ T n (wn_ T n a); omega) (by show dn_ T n (wn_ T n a) ≤ n; omega) R9
  · refine s_tabIn (tgt := 207) dX4_readLine_15 (by first | exact hG1.2 _ _ | exact hG.2 _ _ | exact b01_in _ | assumption | exact ⟨by omega, by omega⟩) (by decide) (by decide) rfl (by decide) ?_
    have ej : j = 15 := by omega
    rw [ej, pb_15] at K
    refine s_aload_n dX4_readLine_207 rfl ?_
    
    have K1 := K
    refine s_callP (as := []) ((pChanged T n (wn_ T n a) y).1 = -1) (fun q => ((ot_f K1 q).2 q).1) dX4_readLine_208 vf_X4_93 (dd_ (by omega) (by decide)) rfl rfl (Nat.le_of_ble_eq_true rfl) kl_3 rfl io_2 (fun b1 b2 Q1 hb1 k1 kx1 => ?_)
    refine c_X4_readChanged (by omega) E RhG1 (by omega) (by omega) (by omega) (by omega) (ot_e K1 (fun q => hb1 q) (fun h' q z => kx1 _ _ _ q z) (fun e s9 h9 u0 u1 R9 => k1 _ _ _ e ?_))
    refine s_goto (tgt := 286) dX4_readLine_211 (by decide) ?_
    first | exact tl_X4_readLine (by omega) E K1 e u0 u1 R9 | exact tl_X4_readLine (by omega) E K rfl (by show 0 ≤ dn_ T n (wn_ T n a); omega) (by show dn_ T n (wn_ T n a) ≤ n; omega) R9
  · refine s_tabIn (tgt := 214) dX4_readLine_15 (by first | exact hG1.2 _ _ | exact hG.2 _ _ | exact b01_in _ | assumption | exact ⟨by omega, by omega⟩) (by decide) (by decide) rfl (by decide) ?_
    have ej : j = 16 := by omega
    rw [ej, pb_16] at K
    refine s_aload_n dX4_readLine_214 rfl ?_
    
    have K1 := K
    refine s_callP (as := []) ((pLost T n (wn_ T n a) y).1 = -1) (fun q => ((ot_f K1 q).2 q).1) dX4_readLine_215 vf_X4_96 (dd_ (by omega) (by decide)) rfl rfl (Nat.le_of_ble_eq_true rfl) kl_3 rfl io_2 (fun b1 b2 Q1 hb1 k1 kx1 => ?_)
    refine c_X4_readLost (by omega) E RhG1 (by omega) (by omega) (by omega) (by omega) (ot_e K1 (fun q => hb1 q) (fun h' q z => kx1 _ _ _ q z) (fun e s9 h9 u0 u1 R9 => k1 _ _ _ e ?_))
    refine s_goto (tgt := 286) dX4_readLine_218 (by decide) ?_
    first | exact tl_X4_readLine (by omega) E K1 e u0 u1 R9 | exact tl_X4_readLine (by omega) E K rfl (by show 0 ≤ dn_ T n (wn_ T n a); omega) (by show dn_ T n (wn_ T n a) ≤ n; omega) R9
  · refine s_tabIn (tgt := 221) dX4_readLine_15 (by first | exact hG1.2 _ _ | exact hG.2 _ _ | exact b01_in _ | assumption | exact ⟨by omega, by omega⟩) (by decide) (by decide) rfl (by decide) ?_
    have ej : j = 18 := by omega
    rw [ej, pb_18] at K
    refine s_aload_n dX4_readLine_221 rfl ?_
    
    have K1 := K
    refine s_callP (as := []) ((pDead T n (wn_ T n a) y).1 = -1) (fun q => ((ot_f K1 q).2 q).1) dX4_readLine_222 vf_X4_99 (dd_ (by omega) (by decide)) rfl rfl (Nat.le_of_ble_eq_true rfl) kl_3 rfl io_2 (fun b1 b2 Q1 hb1 k1 kx1 => ?_)
    refine c_X4_readDead (by omega) E RhG1 (by omega) (by omega) (by omega) (by omega) (ot_e K1 (fun q => hb1 q) (fun h' q z => kx1 _ _ _ q z) (fun e s9 h9 u0 u1 R9 => k1 _ _ _ e ?_))
    refine s_goto (tgt := 286) dX4_readLine_225 (by decide) ?_
    first | exact tl_X4_readLine (by omega) E K1 e u0 u1 R9 | exact tl_X4_readLine (by omega) E K rfl (by show 0 ≤ dn_ T n (wn_ T n a); omega) (by show dn_ T n (wn_ T n a) ≤ n; omega) R9
  · refine s_tabIn (tgt := 228) dX4_readLine_15 (by first | exact hG1.2 _ _ | exact hG.2 _ _ | exact b01_in _ | assumption | exact ⟨by omega, by omega⟩) (by decide) (by decide) rfl (by decide) ?_
    have ej : j = 19 := by omega
    rw [ej, pb_19] at K
    refine s_aload_n dX4_readLine_228 rfl ?_
    refine s_getr dX4_readLine_229 fl_X4_21 kl_3 (by decide) rfl io_2 (z := 1) rfl (rf_3_1 hG1.1 io_2) (rk_3_1 io_2).1 ?_
    refine s_iconst dX4_readLine_232 ?_
    refine s_aload_n dX4_readLine_233 rfl ?_
    refine s_iconst dX4_readLine_234 ?_
    refine s_getsrN dX4_readLine_235 (C := "WillHouse") (nm := "MOST_TOLD") (ds := "[I") (z := 1302) (by decide +kernel) fn_X4_68 ?_
    refine s_iconst dX4_readLine_238 ?_
    refine s_kiaload dX4_readLine_239 (f := fun i => mtd_.getD i 0) (fun _ _ _ ad K => K.2.2.2.2.2.2.1) (by omega) (by omega) (by omega) (v := 240) (by decide) ?_
    
    have e9 : pTold 2 240 T n (wn_ T n a) y = iC (¬ okN T n (wn_ T n a) 0 240) (nb_ T n (wn_ T n a), (wn_ T n a), y) (-1, dn_ T n (wn_ T n a), zput y (fu_ (y 1) (56 + 2) (dv_ T n (wn_ T n a)))) := rfl
    refine s_callP (as := [_, _]) (okN T n (wn_ T n a) 0 240) (fun q => (ot_x (f := nb_ T n (wn_ T n a)) (by have K2 := K; rw [e9, iC_t q] at K2; exact ot_f K2 (show ¬ nb_ T n (wn_ T n a) = -1 by omega)) (by omega)).1) dX4_readLine_240 vf_X4_71 (dd_ (by omega) (by decide)) rfl rfl (Nat.le_of_ble_eq_true rfl) kl_3 rfl io_2 (fun b1 b2 Q1 hb1 k1 kx1 => ?_)
    refine c_X4_takeNumber (by omega) ⟨by omega, by omega⟩ ⟨by omega, by omega⟩ (fun q => hb1 q) E RhG1 (by omega) (by omega) (fun okhG4 hhG4 RhG4 => k1 _ _ _ okhG4 ?_) (fun q h' X => kx1 _ _ _ q ((ot_x (f := nb_ T n (wn_ T n a)) (by have K2 := K; rw [e9, iC_t q] at K2; exact ot_f K2 (show ¬ nb_ T n (wn_ T n a) = -1 by omega)) (by omega)).2 h' X))
    have hG4 := RhG4.1.1
    have dhG4 := RhG4.2.1
    have phG4 := RhG4.2.2.1.1
    have o9 := okhG4.2
    rw [e9, iC_f (nn_i okhG4)] at K
    refine s_callV (d' := d - 1) (bc' := 0) (bs' := 0) (as := [_, _]) dX4_readLine_243 vf_X4_75 (dd_ (by omega) (by decide)) ⟨Nat.zero_le _, Nat.zero_le _⟩ rfl rfl (Nat.le_of_ble_eq_true rfl) kl_1 rfl (rk_3_1 io_2) ?_
    refine c_X2_putTold (rk_3_1 io_2) hG4 (by omega) (by omega) ⟨by omega, by omega⟩ ?_
    have e1 : (zput y (fu_ (y 1) (56 + 2) (dv_ T n (wn_ T n a)))) 0 1 = y 0 1 := by rw [zput_ne (by omega)]
    have R9 := rs_fu (k := 56 + 2) (w := dv_ T n (wn_ T n a)) E RhG4 (by unfold zok; omega)
    rw [← e1] at R9
    refine s_goto (tgt := 286) dX4_readLine_246 (by decide) ?_
    first | exact tl_X4_readLine (by omega) E K1 e u0 u1 R9 | exact tl_X4_readLine (by omega) E K rfl (by show 0 ≤ dn_ T n (wn_ T n a); omega) (by show dn_ T n (wn_ T n a) ≤ n; omega) R9
  · refine s_tabIn (tgt := 249) dX4_readLine_15 (by first | exact hG1.2 _ _ | exact hG.2 _ _ | exact b01_in _ | assumption | exact ⟨by omega, by omega⟩) (by decide) (by decide) rfl (by decide) ?_
    have ej : j = 20 := by omega
    rw [ej, pb_20] at K
    refine s_aload_n dX4_readLine_249 rfl ?_
    refine s_getr dX4_readLine_250 fl_X4_21 kl_3 (by decide) rfl io_2 (z := 1) rfl (rf_3_1 hG1.1 io_2) (rk_3_1 io_2).1 ?_
    refine s_iconst dX4_readLine_253 ?_
    refine s_aload_n dX4_readLine_254 rfl ?_
    refine s_iconst dX4_readLine_255 ?_
    refine s_getsrN dX4_readLine_256 (C := "WillHouse") (nm := "MOST_TOLD") (ds := "[I") (z := 1302) (by decide +kernel) fn_X4_68 ?_
    refine s_iconst dX4_readLine_259 ?_
    refine s_kiaload dX4_readLine_260 (f := fun i => mtd_.getD i 0) (fun _ _ _ ad K => K.2.2.2.2.2.2.1) (by omega) (by omega) (by omega) (v := 99) (by decide) ?_
    
    have e9 : pTold 3 99 T n (wn_ T n a) y = iC (¬ okN T n (wn_ T n a) 0 99) (nb_ T n (wn_ T n a), (wn_ T n a), y) (-1, dn_ T n (wn_ T n a), zput y (fu_ (y 1) (56 + 3) (dv_ T n (wn_ T n a)))) := rfl
    refine s_callP (as := [_, _]) (okN T n (wn_ T n a) 0 99) (fun q => (ot_x (f := nb_ T n (wn_ T n a)) (by have K2 := K; rw [e9, iC_t q] at K2; exact ot_f K2 (show ¬ nb_ T n (wn_ T n a) = -1 by omega)) (by omega)).1) dX4_readLine_261 vf_X4_71 (dd_ (by omega) (by decide)) rfl rfl (Nat.le_of_ble_eq_true rfl) kl_3 rfl io_2 (fun b1 b2 Q1 hb1 k1 kx1 => ?_)
    refine c_X4_takeNumber (by omega) ⟨by omega, by omega⟩ ⟨by omega, by omega⟩ (fun q => hb1 q) E RhG1 (by omega) (by omega) (fun okhG5 hhG5 RhG5 => k1 _ _ _ okhG5 ?_) (fun q h' X => kx1 _ _ _ q ((ot_x (f := nb_ T n (wn_ T n a)) (by have K2 := K; rw [e9, iC_t q] at K2; exact ot_f K2 (show ¬ nb_ T n (wn_ T n a) = -1 by omega)) (by omega)).2 h' X))
    have hG5 := RhG5.1.1
    have dhG5 := RhG5.2.1
    have phG5 := RhG5.2.2.1.1
    have o9 := okhG5.2
    rw [e9, iC_f (nn_i okhG5)] at K
    refine s_callV (d' := d - 1) (bc' := 0) (bs' := 0) (as := [_, _]) dX4_readLine_264 vf_X4_75 (dd_ (by omega) (by decide)) ⟨Nat.zero_le _, Nat.zero_le _⟩ rfl rfl (Nat.le_of_ble_eq_true rfl) kl_1 rfl (rk_3_1 io_2) ?_
    refine c_X2_putTold (rk_3_1 io_2) hG5 (by omega) (by omega) ⟨by omega, by omega⟩ ?_
    have e1 : (zput y (fu_ (y 1) (56 + 3) (dv_ T n (wn_ T n a)))) 0 1 = y 0 1 := by rw [zput_ne (by omega)]
    have R9 := rs_fu (k := 56 + 3) (w := dv_ T n (wn_ T n a)) E RhG5 (by unfold zok; omega)
    rw [← e1] at R9
    refine s_goto (tgt := 286) dX4_readLine_267 (by decide) ?_
    first | exact tl_X4_readLine (by omega) E K1 e u0 u1 R9 | exact tl_X4_readLine (by omega) E K rfl (by show 0 ≤ dn_ T n (wn_ T n a); omega) (by show dn_ T n (wn_ T n a) ≤ n; omega) R9
  · refine s_tabIn (tgt := 270) dX4_readLine_15 (by first | exact hG1.2 _ _ | exact hG.2 _ _ | exact b01_in _ | assumption | exact ⟨by omega, by omega⟩) (by decide) (by decide) rfl (by decide) ?_
    have ej : j = 21 := by omega
    rw [ej, pb_21] at K
    refine s_aload_n dX4_readLine_270 rfl ?_
    
    have K1 := K
    refine s_callP (as := []) ((pRule T n (wn_ T n a) y).1 = -1) (fun q => ((ot_f K1 q).2 q).1) dX4_readLine_271 vf_X4_102 (dd_ (by omega) (by decide)) rfl rfl (Nat.le_of_ble_eq_true rfl) kl_3 rfl io_2 (fun b1 b2 Q1 hb1 k1 kx1 => ?_)
    refine c_X4_readRule (by omega) E RhG1 (by omega) (by omega) (by omega) (by omega) (ot_e K1 (fun q => hb1 q) (fun h' q z => kx1 _ _ _ q z) (fun e s9 h9 u0 u1 R9 => k1 _ _ _ e ?_))
    refine s_goto (tgt := 286) dX4_readLine_274 (by decide) ?_
    first | exact tl_X4_readLine (by omega) E K1 e u0 u1 R9 | exact tl_X4_readLine (by omega) E K rfl (by show 0 ≤ dn_ T n (wn_ T n a); omega) (by show dn_ T n (wn_ T n a) ≤ n; omega) R9
  · refine s_tabOut (tgt := 277) dX4_readLine_15 (by first | exact hG1.2 _ _ | exact hG.2 _ _ | exact b01_in _ | assumption | exact ⟨by omega, by omega⟩) c1 (by decide) ?_
    refine s_aload_n dX4_readLine_277 rfl ?_
    refine s_iconst dX4_readLine_278 ?_
    refine s_aload_n dX4_readLine_279 rfl ?_
    refine s_geti dX4_readLine_280 fl_X4_105 kl_3 (by decide) rfl io_2 (z := 6) rfl ?_
    
    have e9 := pb_no (T := T) (n := n) (s := nb_ T n a) (a := wn_ T n a) (y := y) (j := j) (by omega)
    rw [e9] at K
    have K1 := ot_f K (show ¬ nb_ T n a = -1 by omega)
    exact s_callV (d' := d - 1) (bc' := 1) (bs' := 6) dX4_readLine_283 vf_X4_108 (dd_ (by omega) (by decide)) (ot_x K1 (by omega)).1 rfl rfl (Nat.le_of_ble_eq_true rfl) kl_3 rfl io_2 (c_X4_demand (by omega) (fun q => ⟨Nat.le_refl _, Nat.le_refl _⟩) RhG1 (hG1.2 _ _) (Or.inl rfl) (f := nb_ T n a) (by omega) (by omega) (fun q => absurd rfl q) (fun q h' X => (ot_x K1 (by omega)).2 h' X))
set_option maxRecDepth 100000 in
set_option maxHeartbeats 4000000 in
theorem c_X4_hasMore  (E : EV_ h0 v n T) (RhG : RS_ h0 v n m a s y h) (k : Q.1 (some (0, b01 (a < n))) nN h) : Cl_ yX4_hasMore MX4_hasMore d bc bs [(2, 2)] nN h Q := by
  refine s_enter pn_X4 rfl (Nat.le_of_ble_eq_true rfl) (L := [(2, _)]) rfl ?_
  have hG := RhG.1.1
  have dhG := RhG.2.1
  have phG := RhG.2.2.1.1
  have hn := E.2.1
  have W := ev_w E
  refine s_aload_n dX4_hasMore_0 rfl ?_
  refine s_geti dX4_hasMore_1 fl_X4_36 kl_3 (by decide) rfl io_2 (z := 5) rfl ?_
  refine s_aload_n dX4_hasMore_4 rfl ?_
  refine s_geti dX4_hasMore_5 fl_X4_33 kl_3 (by decide) rfl io_2 (z := 4) rfl ?_
  refine s_icmp_ge (tgt := 15) dX4_hasMore_8 (by decide) (by first | exact hG.2 _ _ | exact b01_in _ | assumption | exact ⟨by omega, by omega⟩) (by first | exact hG.2 _ _ | exact b01_in _ | assumption | exact ⟨by omega, by omega⟩) (fun c1 => ?_) (fun c1 => ?_)
  · refine s_iconst dX4_hasMore_15 ?_
    exact s_zreturn dX4_hasMore_16 rfl (by first | exact Or.inl rfl | exact Or.inr rfl) (by first | (rw [b01_t (c := a < n) (by omega)] at k; exact k) | (rw [b01_f (c := a < n) (by omega)] at k; exact k))
  · refine s_iconst dX4_hasMore_11 ?_
    refine s_goto (tgt := 16) dX4_hasMore_12 (by decide) ?_
    exact s_zreturn dX4_hasMore_16 rfl (by first | exact Or.inl rfl | exact Or.inr rfl) (by first | (rw [b01_t (c := a < n) (by omega)] at k; exact k) | (rw [b01_f (c := a < n) (by omega)] at k; exact k))
end X4E
