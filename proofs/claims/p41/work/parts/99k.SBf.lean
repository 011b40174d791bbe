/-! the text that is written: a letter, a text put behind it; its length, its letters; emptied -/
def TW_ (h : PH) (u : UT) : Prop := G h ∧ B5_ h ∧ (h 198 1 = 0 ∨ h 198 1 = 1) ∧ h 198 0 = u.1 ∧ ∀ k : Int, 0 ≤ k → k < u.1 → h 198 (10 + k) = u.2 k
theorem bm_ {c : Int} (c0 : 0 ≤ c) (c1 : c < 128) : Int.bmod c 256 = c := by
  simp only [Int.bmod]
  split <;> omega
section SBF
variable {d bc bs : Nat} {Q : PQ} {h : PH} {u : UT}
theorem tw_c {c : Int} (T : TW_ h u) (c0 : 0 ≤ c) (c1 : c < 128) (hl : u.1 + 1 ≤ 480) : TW_ (hs_ (hs_ (eh_ h (u.1 + 1)) 198 0 (u.1 + 1)) 198 (10 + u.1) c) (tc_ u c) ∧ FB h (hs_ (hs_ (eh_ h (u.1 + 1)) 198 0 (u.1 + 1)) 198 (10 + u.1) c) ∧ hs_ (hs_ (eh_ h (u.1 + 1)) 198 0 (u.1 + 1)) 198 (10 + u.1) c 198 (-1) = eh_ h (u.1 + 1) 198 (-1) := by
  obtain ⟨hG, B, m, en, el⟩ := T
  have n0 := B.2.1
  obtain ⟨B2, q1, q2⟩ := eh_b (q := u.1 + 1) B hl (by omega)
  have cap : hs_ (hs_ (eh_ h (u.1 + 1)) 198 0 (u.1 + 1)) 198 (10 + u.1) c 198 (-1) = eh_ h (u.1 + 1) 198 (-1) := by rw [hs_ne _ (by omega), hs_ne _ (by omega)]
  refine ⟨⟨g_hs (g_hs (eh_g B hG) ⟨by omega, by omega⟩) ⟨by omega, by omega⟩, ⟨by rw [cap]; exact B2.1, ?_, fun k k0 k1 => ?_⟩, ?_, ?_, fun k k0 k1 => ?_⟩, (eh_B.tr hs_B).tr hs_B, cap⟩
  · rw [cap, hs_ne _ (by omega), hs_eq]
    omega
  · rw [cap] at k1
    by_cases e : k = u.1
    · rw [e, hs_eq]
      omega
    · rw [hs_ne _ (by omega), hs_ne _ (by omega)]
      exact B2.2.2 k k0 k1
  · rw [hs_ne _ (by omega), hs_ne _ (by omega), eh_n B (by omega) (by omega)]
    exact m
  · rw [hs_ne _ (by omega), hs_eq]
    rfl
  · show _ = if k = u.1 then c else u.2 k
    by_cases e : k = u.1
    · rw [if_pos e, e, hs_eq]
    · have k2 : k < u.1 + 1 := k1
      rw [if_neg e, hs_ne _ (by omega), hs_ne _ (by omega), eh_l k0 (by omega)]
      exact el k k0 (by omega)
theorem tw_t {f : Nat → Int} {n : Int} (T : TW_ h u) (n0 : 0 ≤ n) (n1 : n ≤ 16) (hf : ∀ i : Nat, (i : Int) < n → 0 ≤ f i ∧ f i < 128) (hl : u.1 + n ≤ 480) : TW_ (hs_ (cy_ (eh_ h (u.1 + n)) f u.1 n) 198 0 (u.1 + n)) (tt_ u f n) ∧ FB h (hs_ (cy_ (eh_ h (u.1 + n)) f u.1 n) 198 0 (u.1 + n)) ∧ hs_ (cy_ (eh_ h (u.1 + n)) f u.1 n) 198 0 (u.1 + n) 198 (-1) = eh_ h (u.1 + n) 198 (-1) := by
  obtain ⟨hG, B, m, en, el⟩ := T
  have m0 := B.2.1
  obtain ⟨B2, q1, q2⟩ := eh_b (q := u.1 + n) B hl (by omega)
  have cyB : FB (eh_ h (u.1 + n)) (cy_ (eh_ h (u.1 + n)) f u.1 n) := fun x hx => funext fun y => if_neg (fun z => hx z.1)
  have cyo : ∀ y : Int, ¬ (10 + u.1 ≤ y ∧ y < 10 + u.1 + n) → cy_ (eh_ h (u.1 + n)) f u.1 n 198 y = eh_ h (u.1 + n) 198 y := fun y hy => if_neg (fun z => hy z.2)
  have cyi : ∀ k : Int, u.1 ≤ k → k < u.1 + n → cy_ (eh_ h (u.1 + n)) f u.1 n 198 (10 + k) = f (k - u.1).toNat := fun k a b => by
    unfold cy_
    rw [if_pos ⟨rfl, by omega, by omega⟩]
    congr 2
    omega
  have cap : hs_ (cy_ (eh_ h (u.1 + n)) f u.1 n) 198 0 (u.1 + n) 198 (-1) = eh_ h (u.1 + n) 198 (-1) := by rw [hs_ne _ (by omega), cyo _ (by omega)]
  have gc : G (cy_ (eh_ h (u.1 + n)) f u.1 n) := by
    refine g_B (eh_g B hG) cyB (fun y => ?_)
    by_cases c : 10 + u.1 ≤ y ∧ y < 10 + u.1 + n
    · have e := cyi (y - 10) (by omega) (by omega)
      rw [show 10 + (y - 10) = y by omega] at e
      have b := hf (y - 10 - u.1).toNat (by omega)
      rw [e]
      exact ⟨by omega, by omega⟩
    · rw [cyo y c]
      exact (eh_g B hG).2 _ _
  refine ⟨⟨g_hs gc ⟨by omega, by omega⟩, ⟨by rw [cap]; exact B2.1, ?_, fun k k0 k1 => ?_⟩, ?_, ?_, fun k k0 k1 => ?_⟩, (eh_B.tr cyB).tr hs_B, cap⟩
  · rw [cap, hs_eq]
    omega
  · rw [cap] at k1
    rw [hs_ne _ (by omega)]
    by_cases c : u.1 ≤ k ∧ k < u.1 + n
    · have b := hf (k - u.1).toNat (by omega)
      rw [cyi k c.1 c.2]
      omega
    · rw [cyo _ (by omega)]
      exact B2.2.2 k k0 k1
  · rw [hs_ne _ (by omega), cyo _ (by omega), eh_n B (by omega) (by omega)]
    exact m
  · rw [hs_eq]
    rfl
  · show _ = if u.1 ≤ k ∧ k < u.1 + n then f (k - u.1).toNat else u.2 k
    have k2 : k < u.1 + n := k1
    rw [hs_ne _ (by omega)]
    by_cases c : u.1 ≤ k ∧ k < u.1 + n
    · rw [if_pos c, cyi k c.1 c.2]
    · rw [if_neg c, cyo _ (by omega), eh_l k0 (by omega)]
      exact el k k0 (by omega)
set_option maxRecDepth 100000 in
set_option maxHeartbeats 4000000 in
theorem c_J5_apc {c : Int} (hd : 4 ≤ d) (T : TW_ h u) (c0 : 0 ≤ c) (c1 : c < 128) (hl : u.1 + 1 ≤ 480) (hbc : eb_ h (u.1 + 1) ≤ bc) (hbs : es_ h (u.1 + 1) ≤ bs) (k : ∀ h1 : PH, TW_ h1 (tc_ u c) → FB h h1 → h1 198 (-1) = eh_ h (u.1 + 1) 198 (-1) → Q.1 (some (2, 198)) nM h1) : Cl_ yJ5_append_3fe6f MJ5_append_3fe6f d bc bs [(2, 198), (0, c)] nM h Q := by
  refine s_enter pn_J5 rfl (Nat.le_of_ble_eq_true rfl) (L := [(2, _), (0, _)]) rfl ?_
  have n0 := T.2.1.2.1
  have c9 := T.2.1.1
  have en := T.2.2.2.1
  refine s_aload_n dJ5_append_3fe6f_0 rfl ?_
  refine s_aload_n dJ5_append_3fe6f_1 rfl ?_
  refine s_getn dJ5_append_3fe6f_2 fl_J5_79 en ?_
  refine s_iconst dJ5_append_3fe6f_5 ?_
  refine s_iadd dJ5_append_3fe6f_6 ?_
  refine e_callB (d' := d - 1) (bc' := eb_ h (u.1 + 1)) (bs' := es_ h (u.1 + 1)) (as := [_]) nh_0 dJ5_append_3fe6f_7 bf_J5_100 (dd_ (by omega) (by decide)) ⟨hbc, hbs⟩ rfl rfl (Nat.le_of_ble_eq_true rfl) ?_
  refine c_J5_ensure (by omega) T.2.1 T.1 (by omega) (by omega) (by omega) (Nat.le_refl _) (Nat.le_refl _) (fun hG1 => ?_)
  refine s_aload_n dJ5_append_3fe6f_10 rfl ?_
  refine e_callB (d' := d - 1) (bc' := 0) (bs' := 0) (as := []) nh_0 dJ5_append_3fe6f_11 bf_J5_83 (dd_ (by omega) (by decide)) ⟨Nat.zero_le _, Nat.zero_le _⟩ rfl rfl (Nat.le_of_ble_eq_true rfl) ?_
  refine c_J5_isLatin1_aae02 ?_
  refine s_if_eq (tgt := 45) dJ5_append_3fe6f_14 (by decide) (by first | exact hG1.2 _ _ | exact hG.2 _ _ | exact b01_in _ | assumption | exact ⟨by omega, by omega⟩) (fun a1 => ?_) (fun a1 => ?_)
  · exact absurd a1 (by decide)
  · refine s_iload_n dJ5_append_3fe6f_17 rfl ?_
    refine e_callS (d' := d - 1) (bc' := 0) (bs' := 0) (as := [_]) nh_0 dJ5_append_3fe6f_18 sf_J5_191 (dd_ (by omega) (by decide)) ⟨Nat.zero_le _, Nat.zero_le _⟩ rfl rfl (Nat.le_of_ble_eq_true rfl) ?_
    refine c_J1_canEncode_fc78d c0 c1 ?_
    refine s_if_eq (tgt := 45) dJ5_append_3fe6f_21 (by decide) (by first | exact hG1.2 _ _ | exact hG.2 _ _ | exact b01_in _ | assumption | exact ⟨by omega, by omega⟩) (fun a2 => ?_) (fun a2 => ?_)
    · exact absurd a2 (by decide)
    · refine s_aload_n dJ5_append_3fe6f_24 rfl ?_
      refine s_getv dJ5_append_3fe6f_25 fl_J5_15 ?_
      refine s_aload_n dJ5_append_3fe6f_28 rfl ?_
      refine s_dup dJ5_append_3fe6f_29 rfl ?_
      refine s_getn dJ5_append_3fe6f_30 fl_J5_79 (v := u.1) (by rw [eh_n T.2.1 (by omega) (by omega)]; exact en) ?_
      refine s_dupx1 dJ5_append_3fe6f_33 rfl rfl ?_
      refine s_iconst dJ5_append_3fe6f_34 ?_
      refine s_iadd dJ5_append_3fe6f_35 ?_
      refine s_putn dJ5_append_3fe6f_36 fl_J5_79 ?_
      refine s_iload_n dJ5_append_3fe6f_39 rfl ?_
      refine s_i2b dJ5_append_3fe6f_40 ?_
      have B2 := (eh_b (q := u.1 + 1) T.2.1 hl (by omega))
      have tw := tw_c T c0 c1 hl
      rw [bm_ c0 c1]
      refine s_bastore5 dJ5_append_3fe6f_41 (by omega) (by rw [hs_ne _ (by omega)]; omega) (by rw [hs_ne _ (by omega)]; have := B2.1.1.2; omega) (by omega) (by omega) ?_
      refine s_goto (tgt := 75) dJ5_append_3fe6f_42 (by decide) ?_
      refine s_aload_n dJ5_append_3fe6f_75 rfl ?_
      exact s_areturn dJ5_append_3fe6f_76 rfl (Or.inl ⟨_, rfl⟩) (k _ tw.1 tw.2.1 tw.2.2)
set_option maxRecDepth 100000 in
set_option maxHeartbeats 4000000 in
theorem c_J4_apc {c : Int} (hd : 5 ≤ d) (T : TW_ h u) (c0 : 0 ≤ c) (c1 : c < 128) (hl : u.1 + 1 ≤ 480) (hbc : eb_ h (u.1 + 1) ≤ bc) (hbs : es_ h (u.1 + 1) ≤ bs) (k : ∀ h1 : PH, TW_ h1 (tc_ u c) → FB h h1 → h1 198 (-1) = eh_ h (u.1 + 1) 198 (-1) → Q.1 (some (2, 198)) nM h1) : Cl_ yJ4_append_cf468 MJ4_append_cf468 d bc bs [(2, 198), (0, c)] nM h Q := by
  refine s_enter pn_J4 rfl (Nat.le_of_ble_eq_true rfl) (L := [(2, _), (0, _)]) rfl ?_
  refine s_aload_n dJ4_append_cf468_0 rfl ?_
  refine s_iload_n dJ4_append_cf468_1 rfl ?_
  refine e_callSU (d' := d - 1) (bc' := bc) (bs' := bs) (as := [_]) nh_0 dJ4_append_cf468_2 su_J4_50 (dd_ (by omega) (by decide)) ⟨Nat.le_refl _, Nat.le_refl _⟩ rfl rfl (Nat.le_of_ble_eq_true rfl) ?_
  refine c_J5_apc (by omega) T c0 c1 hl hbc hbs (fun h1 t1 f1 e1 => ?_)
  refine s_pop dJ4_append_cf468_5 rfl ?_
  refine s_aload_n dJ4_append_cf468_6 rfl ?_
  exact s_areturn dJ4_append_cf468_7 rfl (Or.inl ⟨_, rfl⟩) (k h1 t1 f1 e1)
set_option maxRecDepth 100000 in
set_option maxHeartbeats 4000000 in
theorem c_J0_getBytes_840e7 {j : Nat} (hj : j < 44) {p : Int} (hd : 2 ≤ d) (p0 : 0 ≤ p) (pc : p + (txb_ j).length ≤ h 198 (-1)) (hc : h 198 (-1) ≤ 962) (k : Q.1 none nM (cy_ h (fun i => (txb_ j).getD i 0) p (txb_ j).length)) : Cl_ yJ0_getBytes_840e7 MJ0_getBytes_840e7 d bc bs [(2, 1000 + j), (5, 0), (0, p), (0, 0)] nM h Q := by
  refine s_enter pn_J0 rfl (Nat.le_of_ble_eq_true rfl) (L := [(2, _), (5, _), (0, _), (0, _)]) rfl ?_
  have tl := (txs_ok j hj).1
  refine s_aload_n dJ0_getBytes_840e7_0 rfl ?_
  refine e5_callK (d' := d - 1) (as := []) (kx_st hj) dJ0_getBytes_840e7_1 vf_J0_335 (dd_ (by omega) (by decide)) rfl rfl (Nat.le_of_ble_eq_true rfl) rfl ?_
  refine c5_J0_coder_7d493 hj ?_
  refine s_iload_n dJ0_getBytes_840e7_4 rfl ?_
  refine s_icmp_ne (tgt := 28) dJ0_getBytes_840e7_5 (by decide) (by first | exact hG.2 _ _ | exact b01_in _ | assumption | exact ⟨by omega, by omega⟩) (by first | exact hG.2 _ _ | exact b01_in _ | assumption | exact ⟨by omega, by omega⟩) (fun c1 => ?_) (fun c1 => ?_)
  · exact absurd rfl c1
  · refine s_aload_n dJ0_getBytes_840e7_8 rfl ?_
    refine s_kfld (v := (2, 1100 + j)) (ref := "java/lang/String") dJ0_getBytes_840e7_9 (kx_va hj) fl_J0_9 ?_
    refine s_iconst dJ0_getBytes_840e7_12 ?_
    refine s_aload5 dJ0_getBytes_840e7_13 rfl ?_
    refine s_iload_n dJ0_getBytes_840e7_14 rfl ?_
    refine s_iload_n dJ0_getBytes_840e7_15 rfl ?_
    refine s_ishl dJ0_getBytes_840e7_16 (by omega) (by omega) ?_
    rw [sh0_]
    refine s_aload_n dJ0_getBytes_840e7_17 rfl ?_
    refine s_kfld (v := (2, 1100 + j)) (ref := "java/lang/String") dJ0_getBytes_840e7_18 (kx_va hj) fl_J0_9 ?_
    refine s_klen dJ0_getBytes_840e7_21 (kx_by hj) rfl ?_
    refine s_copyt (z := 1100 + j) (f := fun i => (txb_ j).getD i 0) dJ0_getBytes_840e7_22 jc_J0_212 (kx_by hj) p0 (by omega) (by omega) pc (by omega) (by omega) (fun i hi => by have := txb_bd hj i; omega) (by omega) (Nat.le_of_ble_eq_true rfl) ?_
    refine s_goto (tgt := 43) dJ0_getBytes_840e7_25 (by decide) ?_
    exact s_return dJ0_getBytes_840e7_43 rfl k
set_option maxRecDepth 100000 in
set_option maxHeartbeats 4000000 in
theorem c_J5_inflateIfNeededFor_a7421 {j : Nat} (hj : j < 44) (hd : 1 ≤ d) (k : Q.1 none nM h) : Cl_ yJ5_inflateIfNeededFor_a7421 MJ5_inflateIfNeededFor_a7421 d bc bs [(2, 198), (2, 1000 + j)] nM h Q := by
  refine s_enter pn_J5 rfl (Nat.le_of_ble_eq_true rfl) (L := [(2, _), (2, _)]) rfl ?_
  refine s_getsC dJ5_inflateIfNeededFor_a7421_0 fl_J5_18 ?_
  refine s_if_eq (tgt := 21) dJ5_inflateIfNeededFor_a7421_3 (by decide) (by first | exact hG.2 _ _ | exact b01_in _ | assumption | exact ⟨by omega, by omega⟩) (fun c1 => ?_) (fun c1 => ?_)
  · exact absurd c1 (by decide)
  · refine s_aload_n dJ5_inflateIfNeededFor_a7421_6 rfl ?_
    refine s_getk dJ5_inflateIfNeededFor_a7421_7 fl_J5_22 ?_
    refine s_aload_n dJ5_inflateIfNeededFor_a7421_10 rfl ?_
    refine e5_callK (d' := d - 1) (as := []) (kx_st hj) dJ5_inflateIfNeededFor_a7421_11 vf_J5_40 (dd_ (by omega) (by decide)) rfl rfl (Nat.le_of_ble_eq_true rfl) rfl ?_
    refine c5_J0_coder_7d493 hj ?_
    refine s_icmp_eq (tgt := 21) dJ5_inflateIfNeededFor_a7421_14 (by decide) (by first | exact hG.2 _ _ | exact b01_in _ | assumption | exact ⟨by omega, by omega⟩) (by first | exact hG.2 _ _ | exact b01_in _ | assumption | exact ⟨by omega, by omega⟩) (fun c2 => ?_) (fun c2 => ?_)
    · exact s_return dJ5_inflateIfNeededFor_a7421_21 rfl k
    · exact absurd rfl c2
set_option maxRecDepth 100000 in
set_option maxHeartbeats 4000000 in
theorem c_J5_putStringAt_47b60 {j : Nat} (hj : j < 44) {p : Int} (hd : 3 ≤ d) (p0 : 0 ≤ p) (pc : p + (txb_ j).length ≤ h 198 (-1)) (hc : h 198 (-1) ≤ 962) (k : Q.1 none nM (cy_ h (fun i => (txb_ j).getD i 0) p (txb_ j).length)) : Cl_ yJ5_putStringAt_47b60 MJ5_putStringAt_47b60 d bc bs [(2, 198), (0, p), (2, 1000 + j)] nM h Q := by
  refine s_enter pn_J5 rfl (Nat.le_of_ble_eq_true rfl) (L := [(2, _), (0, _), (2, _)]) rfl ?_
  refine s_aload_n dJ5_putStringAt_47b60_0 rfl ?_
  refine s_aload_n dJ5_putStringAt_47b60_1 rfl ?_
  refine e_callB (d' := d - 1) (bc' := 0) (bs' := 0) (as := [_]) nh_0 dJ5_putStringAt_47b60_2 bf_J5_397 (dd_ (by omega) (by decide)) ⟨Nat.zero_le _, Nat.zero_le _⟩ rfl rfl (Nat.le_of_ble_eq_true rfl) ?_
  refine c_J5_inflateIfNeededFor_a7421 hj (by omega) ?_
  refine s_aload_n dJ5_putStringAt_47b60_5 rfl ?_
  refine s_aload_n dJ5_putStringAt_47b60_6 rfl ?_
  refine s_getv dJ5_putStringAt_47b60_7 fl_J5_15 ?_
  refine s_iload_n dJ5_putStringAt_47b60_10 rfl ?_
  refine s_aload_n dJ5_putStringAt_47b60_11 rfl ?_
  refine s_getk dJ5_putStringAt_47b60_12 fl_J5_22 ?_
  refine e_callK (d' := d - 1) (bc' := 0) (bs' := 0) (as := [_, _, _]) nh_0 (kx_st hj) dJ5_putStringAt_47b60_15 vf_J5_399 (dd_ (by omega) (by decide)) ⟨Nat.zero_le _, Nat.zero_le _⟩ rfl rfl (Nat.le_of_ble_eq_true rfl) rfl ?_
  refine c_J0_getBytes_840e7 hj (by omega) p0 pc hc ?_
  exact s_return dJ5_putStringAt_47b60_18 rfl k
set_option maxRecDepth 100000 in
set_option maxHeartbeats 4000000 in
theorem c_J5_aps {j : Nat} (hj : j < 44) (hd : 5 ≤ d) (T : TW_ h u) (hl : u.1 + (txb_ j).length ≤ 480) (hbc : eb_ h (u.1 + (txb_ j).length) ≤ bc) (hbs : es_ h (u.1 + (txb_ j).length) ≤ bs) (k : ∀ h1 : PH, TW_ h1 (tt_ u (fun i => (txb_ j).getD i 0) (txb_ j).length) → FB h h1 → h1 198 (-1) = eh_ h (u.1 + (txb_ j).length) 198 (-1) → Q.1 (some (2, 198)) nM h1) : Cl_ yJ5_append_cf1ce MJ5_append_cf1ce d bc bs [(2, 198), (2, 1000 + j)] nM h Q := by
  refine s_enter pn_J5 rfl (Nat.le_of_ble_eq_true rfl) (L := [(2, _), (2, _), (9, 0)]) rfl ?_
  have n0 := T.2.1.2.1
  have c9 := T.2.1.1
  have en := T.2.2.2.1
  have tl := (txs_ok j hj).1
  refine s_aload_n dJ5_append_cf1ce_0 rfl ?_
  refine s_ifnonnull (tgt := 9) dJ5_append_cf1ce_1 (by decide) ?_
  refine s_aload_n dJ5_append_cf1ce_9 rfl ?_
  refine e_callK (d' := d - 1) (bc' := 0) (bs' := 0) (as := []) nh_0 (kx_st hj) dJ5_append_cf1ce_10 vf_J5_32 (dd_ (by omega) (by decide)) ⟨Nat.zero_le _, Nat.zero_le _⟩ rfl rfl (Nat.le_of_ble_eq_true rfl) rfl ?_
  refine c_J0_length_8abf5 hj (by omega) ?_
  refine s_istore_n dJ5_append_cf1ce_13 (by decide) rfl (L' := [_, _, _]) rfl ?_
  refine s_aload_n dJ5_append_cf1ce_14 rfl ?_
  refine s_aload_n dJ5_append_cf1ce_15 rfl ?_
  refine s_getn dJ5_append_cf1ce_16 fl_J5_79 en ?_
  refine s_iload_n dJ5_append_cf1ce_19 rfl ?_
  refine s_iadd dJ5_append_cf1ce_20 ?_
  refine e_callB (d' := d - 1) (bc' := eb_ h (u.1 + (txb_ j).length)) (bs' := es_ h (u.1 + (txb_ j).length)) (as := [_]) nh_0 dJ5_append_cf1ce_21 bf_J5_100 (dd_ (by omega) (by decide)) ⟨hbc, hbs⟩ rfl rfl (Nat.le_of_ble_eq_true rfl) ?_
  refine c_J5_ensure (by omega) T.2.1 T.1 (by omega) (by omega) (by omega) (Nat.le_refl _) (Nat.le_refl _) (fun hG1 => ?_)
  refine s_aload_n dJ5_append_cf1ce_24 rfl ?_
  refine s_aload_n dJ5_append_cf1ce_25 rfl ?_
  refine s_getn dJ5_append_cf1ce_26 fl_J5_79 (v := u.1) (by rw [eh_n T.2.1 (by omega) (by omega)]; exact en) ?_
  refine s_aload_n dJ5_append_cf1ce_29 rfl ?_
  have B2 := (eh_b (q := u.1 + (txb_ j).length) T.2.1 hl (by omega))
  have tw := tw_t (f := fun i => (txb_ j).getD i 0) (n := (txb_ j).length) T (by omega) (by omega) (fun i _ => txb_bd hj i) hl
  refine e_callB (d' := d - 1) (bc' := 0) (bs' := 0) (as := [_, _]) nh_0 dJ5_append_cf1ce_30 bf_J5_208 (dd_ (by omega) (by decide)) ⟨Nat.zero_le _, Nat.zero_le _⟩ rfl rfl (Nat.le_of_ble_eq_true rfl) ?_
  refine c_J5_putStringAt_47b60 hj (by omega) (by omega) B2.2.1 B2.1.1.2 ?_
  refine s_aload_n dJ5_append_cf1ce_33 rfl ?_
  refine s_dup dJ5_append_cf1ce_34 rfl ?_
  refine s_getn dJ5_append_cf1ce_35 fl_J5_79 (v := u.1) (by show cy_ _ _ _ _ 198 0 = _; unfold cy_; rw [if_neg (by omega), eh_n T.2.1 (by omega) (by omega)]; exact en) ?_
  refine s_iload_n dJ5_append_cf1ce_38 rfl ?_
  refine s_iadd dJ5_append_cf1ce_39 ?_
  refine s_putn dJ5_append_cf1ce_40 fl_J5_79 ?_
  refine s_aload_n dJ5_append_cf1ce_43 rfl ?_
  exact s_areturn dJ5_append_cf1ce_44 rfl (Or.inl ⟨_, rfl⟩) (k _ tw.1 tw.2.1 tw.2.2)
set_option maxRecDepth 100000 in
set_option maxHeartbeats 4000000 in
theorem c_J4_aps {j : Nat} (hj : j < 44) (hd : 6 ≤ d) (T : TW_ h u) (hl : u.1 + (txb_ j).length ≤ 480) (hbc : eb_ h (u.1 + (txb_ j).length) ≤ bc) (hbs : es_ h (u.1 + (txb_ j).length) ≤ bs) (k : ∀ h1 : PH, TW_ h1 (tt_ u (fun i => (txb_ j).getD i 0) (txb_ j).length) → FB h h1 → h1 198 (-1) = eh_ h (u.1 + (txb_ j).length) 198 (-1) → Q.1 (some (2, 198)) nM h1) : Cl_ yJ4_append_15ec4 MJ4_append_15ec4 d bc bs [(2, 198), (2, 1000 + j)] nM h Q := by
  refine s_enter pn_J4 rfl (Nat.le_of_ble_eq_true rfl) (L := [(2, _), (2, _)]) rfl ?_
  refine s_aload_n dJ4_append_15ec4_0 rfl ?_
  refine s_aload_n dJ4_append_15ec4_1 rfl ?_
  refine e_callSU (d' := d - 1) (bc' := bc) (bs' := bs) (as := [_]) nh_0 dJ4_append_15ec4_2 su_J4_29 (dd_ (by omega) (by decide)) ⟨Nat.le_refl _, Nat.le_refl _⟩ rfl rfl (Nat.le_of_ble_eq_true rfl) ?_
  refine c_J5_aps hj (by omega) T hl hbc hbs (fun h1 t1 f1 e1 => ?_)
  refine s_pop dJ4_append_15ec4_5 rfl ?_
  refine s_aload_n dJ4_append_15ec4_6 rfl ?_
  exact s_areturn dJ4_append_15ec4_7 rfl (Or.inl ⟨_, rfl⟩) (k h1 t1 f1 e1)
set_option maxRecDepth 100000 in
set_option maxHeartbeats 4000000 in
theorem c_J5_length_8abf5   (k : Q.1 (some (0, h 198 0)) nM h) : Cl_ yJ5_length_8abf5 MJ5_length_8abf5 d bc bs [(2, 198)] nM h Q := by
  refine s_enter pn_J5 rfl (Nat.le_of_ble_eq_true rfl) (L := [(2, _)]) rfl ?_
  refine s_aload_n dJ5_length_8abf5_0 rfl ?_
  refine s_getn dJ5_length_8abf5_1 fl_J5_79 rfl ?_
  exact s_ireturn dJ5_length_8abf5_4 rfl k
set_option maxRecDepth 100000 in
set_option maxHeartbeats 4000000 in
theorem c_J4_length_8abf5  (hd : 1 ≤ d) (k : Q.1 (some (0, h 198 0)) nM h) : Cl_ yJ4_length_8abf5 MJ4_length_8abf5 d bc bs [(2, 198)] nM h Q := by
  refine s_enter pn_J4 rfl (Nat.le_of_ble_eq_true rfl) (L := [(2, _)]) rfl ?_
  refine s_aload_n dJ4_length_8abf5_0 rfl ?_
  refine e_callSU (d' := d - 1) (bc' := bc) (bs' := bs) (as := []) nh_0 dJ4_length_8abf5_1 su_J4_343 (dd_ (by omega) (by decide)) ⟨Nat.le_refl _, Nat.le_refl _⟩ rfl rfl (Nat.le_of_ble_eq_true rfl) ?_
  refine c_J5_length_8abf5 ?_
  exact s_ireturn dJ4_length_8abf5_4 rfl k
end SBF
