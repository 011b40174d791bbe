/-! WillHouse: what is fed; acts -/
section X8F
variable {d bc bs : Nat} {Q : PQ} {h z : PH}
set_option maxRecDepth 100000 in
set_option maxHeartbeats 4000000 in
theorem rd_X8_put {n s : Int} (C : CR_ h z) (l : z 50 0 < 400) (hn : inI n) (s0 : 0 ≤ s) (s1 : s ≤ 24) (K : ∀ h1 : PH, CR_ h1 (zbyte z (n / 2 ^ s.toNat)) → FC h h1 → S_ MX8_putFourBytes d bc bs Q 3 [(2, 0), (0, n), (0, s + -8)] [] nN h1) : S_ MX8_putFourBytes d bc bs Q 3 [(2, 0), (0, n), (0, s)] [] nN h := by
  have hG := cr_g C
  have I := cr_i C
  obtain ⟨w, hw, W, hwf, P, CN⟩ := cr_w C
  have fc := FC.rf h
  have hT := I.2.1
  have hP := I.2.2.1
  have hN := I.2.2.2.1
  have e1 := C.2.2.2.2.2.2.1.1
  have b50 := (cr_b C).1
  have bb := bm_by (n / 2 ^ s.toNat)
  refine s_iload_n dX8_putFourBytes_3 rfl ?_
  refine s_if_lt (tgt := 46) dX8_putFourBytes_4 (by decide) (by first | exact hG.2 _ _ | exact b01_in _ | assumption | exact ⟨by omega, by omega⟩) (fun c1 => ?_) (fun c1 => ?_)
  · exact absurd c1 (by omega)
  · refine s_aload_n dX8_putFourBytes_7 rfl ?_
    refine s_geti dX8_putFourBytes_8 fl_X8_69 kl_6 (by decide) rfl io_0 (z := 1) rfl ?_
    refine s_sipush dX8_putFourBytes_11 (by decide) ?_
    refine s_icmp_ge (tgt := 40) dX8_putFourBytes_14 (by decide) (by first | exact hG.2 _ _ | exact b01_in _ | assumption | exact ⟨by omega, by omega⟩) (by first | exact hG.2 _ _ | exact b01_in _ | assumption | exact ⟨by omega, by omega⟩) (fun c2 => ?_) (fun c2 => ?_)
    · exact absurd c2 (by omega)
    · refine s_aload_n dX8_putFourBytes_17 rfl ?_
      refine s_getr dX8_putFourBytes_18 fl_X8_9 kl_6 (by decide) rfl io_0 (z := 0) rfl (rf_6_0 hG.1 io_0) (rk_6_0 io_0).1 ?_
      refine s_aload_n dX8_putFourBytes_21 rfl ?_
      refine s_geti dX8_putFourBytes_22 fl_X8_69 kl_6 (by decide) rfl io_0 (z := 1) rfl ?_
      refine s_iload_n dX8_putFourBytes_25 rfl ?_
      refine s_iload_n dX8_putFourBytes_26 rfl ?_
      refine s_ishr dX8_putFourBytes_27 (by first | exact hG.2 _ _ | exact b01_in _ | assumption | exact ⟨by omega, by omega⟩) (by omega) (by omega) ?_
      refine s_i2b dX8_putFourBytes_28 ?_
      refine s_bastore1G dX8_putFourBytes_29 (rk_6_0 io_0) (by omega) (by omega) hG (by omega) (by omega) (fun hG1 => ?_)
      refine s_aload_n dX8_putFourBytes_30 rfl ?_
      refine s_dup dX8_putFourBytes_31 rfl ?_
      refine s_geti dX8_putFourBytes_32 fl_X8_69 kl_6 (by decide) rfl io_0 (z := 1) rfl ?_
      try simp (disch := omega) only [hs_same, hs_ne, fl_in, fl_ne, cp_inn, cp_nee]
      refine s_iconst dX8_putFourBytes_35 ?_
      refine s_iadd dX8_putFourBytes_36 ?_
      refine s_putiG 1 dX8_putFourBytes_37 fl_X8_69 kl_6 (by decide) rfl rfl io_0 (z := 1) rfl (by decide +kernel) hG1 (by first | exact hG1.2 _ _ | exact hG.2 _ _ | exact b01_in _ | assumption | exact ⟨by omega, by omega⟩) (fun hG2 => ?_)
      refine s_iinc dX8_putFourBytes_40 rfl (by decide) rfl (L' := [_, _, _]) rfl ?_
      refine s_goto (tgt := 3) dX8_putFourBytes_43 (by decide) ?_
      refine K _ (cr_byte (v := n / 2 ^ s.toNat) C hG2 l (fun x y a b => by rw [hs_ne _ (by omega), hs_ne _ (by omega)]) ?_ ?_) (fun x y hx => by rw [hs_ne _ (by omega), hs_ne _ (by omega)])
      · rw [hs_eq, e1]
      · rw [hs_ne _ (by omega), hs_same (by omega) (by omega)]
set_option maxRecDepth 100000 in
set_option maxHeartbeats 4000000 in
theorem re_X8_put {n s : Int} (hG : G h) (s0 : s = -8) (k : Q.1 none nN h) : S_ MX8_putFourBytes d bc bs Q 3 [(2, 0), (0, n), (0, s)] [] nN h := by
  refine s_iload_n dX8_putFourBytes_3 rfl ?_
  refine s_if_lt (tgt := 46) dX8_putFourBytes_4 (by decide) (by first | exact hG.2 _ _ | exact b01_in _ | assumption | exact ⟨by omega, by omega⟩) (fun c1 => ?_) (fun c1 => ?_)
  · exact s_return dX8_putFourBytes_46 rfl k
  · exact absurd c1 (by omega)
set_option maxRecDepth 100000 in
set_option maxHeartbeats 4000000 in
theorem c_X8_putFourBytes {n : Int} (C : CR_ h z) (l : z 50 0 ≤ 396) (hn : inI n) (k : ∀ h1 : PH, CR_ h1 (zfour z n) → FC h h1 → Q.1 none nN h1) : Cl_ yX8_putFourBytes MX8_putFourBytes d bc bs [(2, 0), (0, n)] nN h Q := by
  refine s_enter pn_X8 rfl (Nat.le_of_ble_eq_true rfl) (L := [(2, _), (0, _), (9, 0)]) rfl ?_
  refine s_bipush dX8_putFourBytes_0 (by decide) ?_
  refine s_istore_n dX8_putFourBytes_2 (by decide) rfl (L' := [_, _, _]) rfl ?_
  refine rd_X8_put C (by omega) hn (by omega) (by omega) (fun h1 C1 f1 => ?_)
  refine rd_X8_put C1 (by rw [zbyte_50]; omega) hn (by omega) (by omega) (fun h2 C2 f2 => ?_)
  refine rd_X8_put C2 (by rw [zbyte_50, zbyte_50]; omega) hn (by omega) (by omega) (fun h3 C3 f3 => ?_)
  refine rd_X8_put C3 (by rw [zbyte_50, zbyte_50, zbyte_50]; omega) hn (by omega) (by omega) (fun h4 C4 f4 => ?_)
  exact re_X8_put (cr_g C4) (by omega) (k h4 C4 (((f1.tr f2).tr f3).tr f4))
set_option maxRecDepth 100000 in
set_option maxHeartbeats 4000000 in
theorem c_X8_feed {a b c e f : Int} (hd : 4 ≤ d) (C : CR_ h z) (ha : inI a) (hb : inI b) (hc : inI c) (he : inI e) (hf : inI f) (k : z 50 0 ≤ 380 → ∀ h1 : PH, CR_ h1 (zfeed z a b c e f) → FC h h1 → Q.1 (some (0, z 50 0 + 20)) nN h1) (k1 : 380 < z 50 0 → Q.1 (some (0, -1)) nN h) : Cl_ yX8_feed MX8_feed d bc bs [(2, 0), (0, a), (0, b), (0, c), (0, e), (0, f)] nN h Q := by
  refine s_enter pn_X8 rfl (Nat.le_of_ble_eq_true rfl) (L := [(2, _), (0, _), (0, _), (0, _), (0, _), (0, _)]) rfl ?_
  have hG := cr_g C
  have I := cr_i C
  obtain ⟨w, hw, W, hwf, P, CN⟩ := cr_w C
  have fc := FC.rf h
  have hT := I.2.1
  have hP := I.2.2.1
  have hN := I.2.2.2.1
  have e1 := C.2.2.2.2.2.2.1.1
  have b50 := (cr_b C).1
  refine s_aload_n dX8_feed_0 rfl ?_
  refine s_geti dX8_feed_1 fl_X8_69 kl_6 (by decide) rfl io_0 (z := 1) rfl ?_
  refine s_sipush dX8_feed_4 (by decide) ?_
  refine s_icmp_le (tgt := 12) dX8_feed_7 (by decide) (by first | exact hG.2 _ _ | exact b01_in _ | assumption | exact ⟨by omega, by omega⟩) (by first | exact hG.2 _ _ | exact b01_in _ | assumption | exact ⟨by omega, by omega⟩) (fun c1 => ?_) (fun c1 => ?_)
  · refine s_aload_n dX8_feed_12 rfl ?_
    refine s_iload_n dX8_feed_13 rfl ?_
    refine s_callV (d' := d - 1) (bc' := 0) (bs' := 0) (as := [_]) dX8_feed_14 vf_X8_73 (dd_ (by omega) (by decide)) ⟨Nat.zero_le _, Nat.zero_le _⟩ rfl rfl (Nat.le_of_ble_eq_true rfl) kl_6 rfl io_0 ?_
    refine c_X8_putFourBytes C (by first | omega | (simp only [zfour_50]; omega)) (by assumption) (fun h1 C f1 => ?_)
    have hG1 := cr_g C
    have fc := fc.tr f1
    refine s_aload_n dX8_feed_17 rfl ?_
    refine s_iload_n dX8_feed_18 rfl ?_
    refine s_callV (d' := d - 1) (bc' := 0) (bs' := 0) (as := [_]) dX8_feed_19 vf_X8_73 (dd_ (by omega) (by decide)) ⟨Nat.zero_le _, Nat.zero_le _⟩ rfl rfl (Nat.le_of_ble_eq_true rfl) kl_6 rfl io_0 ?_
    refine c_X8_putFourBytes C (by first | omega | (simp only [zfour_50]; omega)) (by assumption) (fun h2 C f2 => ?_)
    have hG2 := cr_g C
    have fc := fc.tr f2
    refine s_aload_n dX8_feed_22 rfl ?_
    refine s_iload_n dX8_feed_23 rfl ?_
    refine s_callV (d' := d - 1) (bc' := 0) (bs' := 0) (as := [_]) dX8_feed_24 vf_X8_73 (dd_ (by omega) (by decide)) ⟨Nat.zero_le _, Nat.zero_le _⟩ rfl rfl (Nat.le_of_ble_eq_true rfl) kl_6 rfl io_0 ?_
    refine c_X8_putFourBytes C (by first | omega | (simp only [zfour_50]; omega)) (by assumption) (fun h3 C f3 => ?_)
    have hG3 := cr_g C
    have fc := fc.tr f3
    refine s_aload_n dX8_feed_27 rfl ?_
    refine s_iload dX8_feed_28 rfl ?_
    refine s_callV (d' := d - 1) (bc' := 0) (bs' := 0) (as := [_]) dX8_feed_30 vf_X8_73 (dd_ (by omega) (by decide)) ⟨Nat.zero_le _, Nat.zero_le _⟩ rfl rfl (Nat.le_of_ble_eq_true rfl) kl_6 rfl io_0 ?_
    refine c_X8_putFourBytes C (by first | omega | (simp only [zfour_50]; omega)) (by assumption) (fun h4 C f4 => ?_)
    have hG4 := cr_g C
    have fc := fc.tr f4
    refine s_aload_n dX8_feed_33 rfl ?_
    refine s_iload dX8_feed_34 rfl ?_
    refine s_callV (d' := d - 1) (bc' := 0) (bs' := 0) (as := [_]) dX8_feed_36 vf_X8_73 (dd_ (by omega) (by decide)) ⟨Nat.zero_le _, Nat.zero_le _⟩ rfl rfl (Nat.le_of_ble_eq_true rfl) kl_6 rfl io_0 ?_
    refine c_X8_putFourBytes C (by first | omega | (simp only [zfour_50]; omega)) (by assumption) (fun h5 C f5 => ?_)
    have hG5 := cr_g C
    have fc := fc.tr f5
    refine s_aload_n dX8_feed_39 rfl ?_
    refine s_geti dX8_feed_40 fl_X8_69 kl_6 (by decide) rfl io_0 (z := 1) rfl ?_
    try simp (disch := omega) only [hs_same, hs_ne, fl_in, fl_ne, cp_inn, cp_nee]
    have e9 := C.2.2.2.2.2.2.1.1
    simp only [zfour_50] at e9
    refine s_ireturn dX8_feed_43 rfl ?_
    rw [e9]
    have k9 := k (by omega) _ C fc
    rw [show z 50 0 + 4 + 4 + 4 + 4 + 4 = z 50 0 + 20 by omega]
    exact k9
  · refine s_iconst dX8_feed_10 ?_
    exact s_ireturn dX8_feed_11 rfl (k1 (by omega))
set_option maxRecDepth 100000 in
set_option maxHeartbeats 4000000 in
theorem c_X8_end {n : Int} (C : CR_ h z) (hn : inI n) (k : 0 ≤ n → n ≤ z 50 0 → ∀ h1 : PH, CR_ h1 (zend z n) → FC h h1 → Q.1 (some (0, 1)) nN h1) (k1 : ¬ (0 ≤ n ∧ n ≤ z 50 0) → Q.1 (some (0, 0)) nN h) : Cl_ yX8_end MX8_end d bc bs [(2, 0), (0, n)] nN h Q := by
  refine s_enter pn_X8 rfl (Nat.le_of_ble_eq_true rfl) (L := [(2, _), (0, _)]) rfl ?_
  have hG := cr_g C
  have I := cr_i C
  obtain ⟨w, hw, W, hwf, P, CN⟩ := cr_w C
  have fc := FC.rf h
  have hT := I.2.1
  have hP := I.2.2.1
  have hN := I.2.2.2.1
  have e1 := C.2.2.2.2.2.2.1.1
  have b50 := (cr_b C).1
  refine s_iload_n dX8_end_0 rfl ?_
  refine s_if_lt (tgt := 12) dX8_end_1 (by decide) (by first | exact hG.2 _ _ | exact b01_in _ | assumption | exact ⟨by omega, by omega⟩) (fun c1 => ?_) (fun c1 => ?_)
  · refine s_iconst dX8_end_12 ?_
    exact s_zreturn dX8_end_13 rfl (Or.inl rfl) (k1 (by omega))
  · refine s_iload_n dX8_end_4 rfl ?_
    refine s_aload_n dX8_end_5 rfl ?_
    refine s_geti dX8_end_6 fl_X8_69 kl_6 (by decide) rfl io_0 (z := 1) rfl ?_
    refine s_icmp_le (tgt := 14) dX8_end_9 (by decide) (by first | exact hG.2 _ _ | exact b01_in _ | assumption | exact ⟨by omega, by omega⟩) (by first | exact hG.2 _ _ | exact b01_in _ | assumption | exact ⟨by omega, by omega⟩) (fun c2 => ?_) (fun c2 => ?_)
    · refine s_aload_n dX8_end_14 rfl ?_
      refine s_iload_n dX8_end_15 rfl ?_
      refine s_putiG 1 dX8_end_16 fl_X8_69 kl_6 (by decide) rfl rfl io_0 (z := 1) rfl (by decide +kernel) hG (by first | exact hG.2 _ _ | exact b01_in _ | assumption | exact ⟨by omega, by omega⟩) (fun hG1 => ?_)
      refine s_iconst dX8_end_19 ?_
      exact s_zreturn dX8_end_20 rfl (Or.inr rfl) (k (by omega) (by omega) _ (cr_end C hG1 (by omega) (by omega) (fun x y a => hs_ne _ a) (hs_eq _ _ _ _)) (fun x y a => hs_ne _ (by omega)))
    · refine s_iconst dX8_end_12 ?_
      exact s_zreturn dX8_end_13 rfl (Or.inl rfl) (k1 (by omega))
theorem zkeep_lo {z : PH} (x : Int) (hx : x < 53) : zkeep z x = z x := by
  unfold zkeep
  rw [if_neg (by omega), if_neg (by omega)]
/-- an act told: what was is kept, F is told -/
def zact (z : PH) (F : Int → Int) : PH := zput (zkeep z) F
set_option maxRecDepth 100000 in
set_option maxHeartbeats 4000000 in
theorem c_X8_undo  (hd : 10 ≤ d) (hbc : 8 ≤ bc) (hbs : 48 ≤ bs) (C : CR_ h z) (k : 0 < z 53 0 → ∀ h1 : PH, CR_ h1 (zundo z) → FC h h1 → Q.1 (some (0, z 53 0 - 1)) nN h1) (k1 : z 53 0 = 0 → OK_ Q h z (-1)) : Cl_ yX8_undo MX8_undo d bc bs [(2, 0)] nN h Q := by
  refine s_enter pn_X8 rfl (Nat.le_of_ble_eq_true rfl) (L := [(2, _)]) rfl ?_
  have hG := cr_g C
  have I := cr_i C
  obtain ⟨w, hw, W, hwf, P, CN⟩ := cr_w C
  have fc := FC.rf h
  have hT := I.2.1
  have hP := I.2.2.1
  have hN := I.2.2.2.1
  have e1 := C.2.2.2.2.2.2.1.1
  have b50 := (cr_b C).1
  obtain ⟨a1, a2, a3⟩ := C.2.2.2.2.2.2.2.2.1
  have b53 := (cr_b C).2.2.2.2.2.1
  have hA : h (0 + 81) 1 = h 81 1 := rfl
  have hB : h (0 + 81) 2 = h 81 2 := rfl
  refine s_aload_n dX8_undo_0 rfl ?_
  refine s_getr dX8_undo_1 fl_X8_39 kl_6 (by decide) rfl io_0 (z := 5) rfl (rf_6_5 hG.1 io_0) (rk_6_5 io_0).1 ?_
  refine s_geti dX8_undo_4 fl_X8_251 kl_0 (by decide) rfl (rk_6_5 io_0) (z := 2) rfl ?_
  rw [hB, a1]
  refine s_if_ne (tgt := 12) dX8_undo_7 (by decide) (by first | exact hG.2 _ _ | exact b01_in _ | assumption | exact ⟨by omega, by omega⟩) (fun c1 => ?_) (fun c1 => ?_)
  · refine s_aload_n dX8_undo_12 rfl ?_
    refine s_getr dX8_undo_13 fl_X8_39 kl_6 (by decide) rfl io_0 (z := 5) rfl (rf_6_5 hG.1 io_0) (rk_6_5 io_0).1 ?_
    refine s_aload_n dX8_undo_16 rfl ?_
    refine s_getr dX8_undo_17 fl_X8_32 kl_6 (by decide) rfl io_0 (z := 4) rfl (rf_6_4 hG.1 io_0) (rk_6_4 io_0).1 ?_
    refine s_callV (d' := d - 1) (bc' := 0) (bs' := 0) (as := [_]) dX8_undo_20 vf_X8_254 (dd_ (by omega) (by decide)) ⟨Nat.zero_le _, Nat.zero_le _⟩ rfl rfl (Nat.le_of_ble_eq_true rfl) kl_0 rfl (rk_6_5 io_0) ?_
    refine c_X1_takeBack (by omega) (rk_6_5 io_0) (rk_6_4 io_0) hG (by omega) (by omega) (by omega) (by omega) ?_
    have hG1 := g_cp (a := 0 + 81 + 1 + 1 + (if h (0 + 81) 1 = 0 then 15 else h (0 + 81) 1 - 1)) (sp := 0) (dp := 0) (n := 61) (g_putO 2 (g_putO 1 hG (rk_6_5 io_0) (z := 1) (v := if h (0 + 81) 1 = 0 then 15 else h (0 + 81) 1 - 1) (by decide +kernel) rfl ⟨by split <;> omega, by split <;> omega⟩) (rk_6_5 io_0) (z := 2) (v := max 0 (h (0 + 81) 2 - 1)) (by decide +kernel) rfl ⟨by omega, by omega⟩) (rk_1_0 (rk_6_4 io_0)) (by decide)
    refine s_aload_n dX8_undo_23 rfl ?_
    refine s_iconst dX8_undo_24 ?_
    refine s_putzG 7 dX8_undo_25 fl_X8_52 kl_6 (by decide) rfl rfl io_0 (z := 7) rfl (by decide +kernel) hG1 (by first | exact Or.inl rfl | exact Or.inr rfl | exact b01_or _ | exact ite01 _ | assumption | omega) (fun hG2 => ?_)
    refine s_aload_n dX8_undo_28 rfl ?_
    refine s_getr dX8_undo_29 fl_X8_39 kl_6 (by decide) rfl io_0 (z := 5) rfl (rf_6_5 hG2.1 io_0) (rk_6_5 io_0).1 ?_
    refine s_geti dX8_undo_32 fl_X8_251 kl_0 (by decide) rfl (rk_6_5 io_0) (z := 2) rfl ?_
    try simp (disch := omega) only [hs_same, hs_ne, fl_in, fl_ne, cp_inn, cp_nee]
    have hlast : ∀ x : Int, x = z 53 0 - 1 → True := fun _ _ => trivial
    have C2 := cr_undo (h' := _) C (by omega) hG2 (fun x y x0 x1 x2 => by rw [hs_ne _ (by omega), cp_ne (by omega), hs_oth (by omega), hs_oth (by omega)]) (by rw [hs_oth (by omega), cp_ne (by omega), hs_otk (by omega), hs_same (by omega) rfl]; rfl) (by rw [hs_oth (by omega), cp_ne (by omega), hs_same (by omega) rfl]; rfl) (fun k k0 k1 => ?_) (hs_eq _ _ _ _)
    · refine s_ireturn dX8_undo_35 rfl ?_
      have k9 := k (by omega) _ C2 (fun x y hx => by rw [hs_oth (by omega), cp_ne (by omega), hs_oth (by omega), hs_oth (by omega)])
      rw [show z 53 0 - 1 = max 0 (h (0 + 81) 2 - 1) by omega] at k9
      exact k9
    · rw [hs_oth (by omega), cp_inn (by omega) k0 (by omega), hs_oth (by split <;> omega), hs_oth (by split <;> omega), show (0 : Int) + (k - 0) = k by omega]
      rfl
  · refine s_iconst dX8_undo_10 ?_
    exact s_ireturn dX8_undo_11 rfl (k1 (by omega) h C (FC.rf h))
end X8F
