/-! texts that stand still: how long, which letters; a word's number -/
section J0A
variable {d bc bs N9 : Nat} {Q : PQ} {h : PH}
theorem pn_J0 : plainName RJ0 = true := by decide +kernel
theorem pn_J1 : plainName RJ1 = true := by decide +kernel
theorem pn_J3 : plainName RJ3 = true := by decide +kernel
theorem pn_Jx29ce0 : plainName RJx29ce0 = true := by decide +kernel
theorem nch {x : Int} (h0 : 0 ≤ x) (h1 : x < 65536) : narrow .char (.int (Int32.ofInt x)) = .int (Int32.ofInt x) := by
  have e := i2c_eq x
  rw [Int.emod_eq_of_lt h0 h1] at e
  show Value.int ((Int32.ofInt x).toUInt32 % 65536).toInt32 = _
  rw [e]
theorem txs_ok : ∀ j : Nat, j < 44 → (txb_ j).length ≤ 15 ∧ (txb_ j).all (fun v => decide (0 ≤ v ∧ v < 128)) = true := by decide +kernel
theorem txb_bd {j : Nat} (hj : j < 44) (i : Nat) : 0 ≤ (txb_ j).getD i 0 ∧ (txb_ j).getD i 0 < 128 := by
  rcases Nat.lt_or_ge i (txb_ j).length with c | c
  · have h1 := List.all_eq_true.mp (txs_ok j hj).2 _ (List.getElem_mem c)
    rw [List.getD_eq_getElem?_getD, List.getElem?_eq_getElem c]
    exact of_decide_eq_true h1
  · rw [List.getD_eq_getElem?_getD, List.getElem?_eq_none c]
    exact ⟨by decide, by decide⟩
theorem kx_co {j : Nat} (hj : j < 44) (A : Nat → Prop) (U : State) (H : Heap) (ad : AD) (K : Kx_ A U H ad.2) : va_OF "java/lang/String" "coder" "B" (rv_ ad (0, 0)) (ad.2 (1000 + j)) A U H := (K.2.1 j hj).2.1
theorem kx_va {j : Nat} (hj : j < 44) (A : Nat → Prop) (U : State) (H : Heap) (ad : AD) (K : Kx_ A U H ad.2) : va_OF "java/lang/String" "value" "[B" (rv_ ad (2, 1100 + j)) (ad.2 (1000 + j)) A U H := (K.2.1 j hj).2.2.1
theorem kx_by {j : Nat} (hj : j < 44) (A : Nat → Prop) (U : State) (H : Heap) (ad : AD) (K : Kx_ A U H ad.2) : va_T .byte (ad.2 (1100 + j)) (txb_ j).length (fun i => .int (Int32.ofInt ((txb_ j).getD i 0))) A U H := (K.2.1 j hj).2.2.2
theorem kx_st {j : Nat} (hj : j < 44) (A : Nat → Prop) (U : State) (H : Heap) (a2 : Int → Nat) (K : Kx_ A U H a2) : va_O "java/lang/String" (a2 (1000 + j)) A U H := (K.2.1 j hj).1
theorem kx_or {j : Nat} (hj : j < 24) (A : Nat → Prop) (U : State) (H : Heap) (ad : AD) (K : Kx_ A U H ad.2) : va_OF "java/lang/Enum" "ordinal" "I" (rv_ ad (0, j)) (ad.2 (1200 + j)) A U H := (K.2.2.1 j hj).2.1
theorem kx_le {j : Nat} (hj : j < 24) (A : Nat → Prop) (U : State) (H : Heap) (ad : AD) (K : Kx_ A U H ad.2) : va_OF "WillHouse$Word" "letters" "Ljava/lang/String;" (rv_ ad (2, 1000 + j)) (ad.2 (1200 + j)) A U H := (K.2.2.1 j hj).2.2
theorem kx_wo {j : Nat} (hj : j < 24) (A : Nat → Prop) (U : State) (H : Heap) (a2 : Int → Nat) (K : Kx_ A U H a2) : va_O "WillHouse$Word" (a2 (1200 + j)) A U H := (K.2.2.1 j hj).1
set_option maxRecDepth 100000 in
set_option maxHeartbeats 4000000 in
theorem c_J0_coder_7d493 {j : Nat} (hj : j < 44)  (k : Q.1 (some (0, 0)) N9 h) : Cl_ yJ0_coder_7d493 MJ0_coder_7d493 d bc bs [(2, 1000 + j)] N9 h Q := by
  refine s_enter pn_J0 rfl (Nat.le_of_ble_eq_true rfl) (L := [(2, _)]) rfl ?_
  refine s_getsC dJ0_coder_7d493_0 fl_J0_38 ?_
  refine s_if_eq (tgt := 13) dJ0_coder_7d493_3 (by decide) (by first | exact hG.2 _ _ | exact b01_in _ | assumption | exact ⟨by omega, by omega⟩) (fun c1 => ?_) (fun c1 => ?_)
  · exact absurd c1 (by decide)
  · refine s_aload_n dJ0_coder_7d493_6 rfl ?_
    refine s_kfld (v := (0, 0)) (ref := "java/lang/String") dJ0_coder_7d493_7 (kx_co hj) fl_J0_15 ?_
    refine s_goto (tgt := 14) dJ0_coder_7d493_10 (by decide) ?_
    exact i_return dJ0_coder_7d493_14 rfl (by decide) k
set_option maxRecDepth 100000 in
set_option maxHeartbeats 4000000 in
theorem c_J0_isLatin1_aae02 {j : Nat} (hj : j < 44)  (k : Q.1 (some (0, 1)) N9 h) : Cl_ yJ0_isLatin1_aae02 MJ0_isLatin1_aae02 d bc bs [(2, 1000 + j)] N9 h Q := by
  refine s_enter pn_J0 rfl (Nat.le_of_ble_eq_true rfl) (L := [(2, _)]) rfl ?_
  refine s_getsC dJ0_isLatin1_aae02_0 fl_J0_38 ?_
  refine s_if_eq (tgt := 17) dJ0_isLatin1_aae02_3 (by decide) (by first | exact hG.2 _ _ | exact b01_in _ | assumption | exact ⟨by omega, by omega⟩) (fun c1 => ?_) (fun c1 => ?_)
  · exact absurd c1 (by decide)
  · refine s_aload_n dJ0_isLatin1_aae02_6 rfl ?_
    refine s_kfld (v := (0, 0)) (ref := "java/lang/String") dJ0_isLatin1_aae02_7 (kx_co hj) fl_J0_15 ?_
    refine s_if_ne (tgt := 17) dJ0_isLatin1_aae02_10 (by decide) (by first | exact hG.2 _ _ | exact b01_in _ | assumption | exact ⟨by omega, by omega⟩) (fun c2 => ?_) (fun c2 => ?_)
    · exact absurd rfl c2
    · refine s_iconst dJ0_isLatin1_aae02_13 ?_
      refine s_goto (tgt := 18) dJ0_isLatin1_aae02_14 (by decide) ?_
      exact s_zreturn dJ0_isLatin1_aae02_18 rfl (Or.inr rfl) k
set_option maxRecDepth 100000 in
set_option maxHeartbeats 4000000 in
theorem c_J0_length_8abf5 {j : Nat} (hj : j < 44) (hd : 1 ≤ d) (k : Q.1 (some (0, ((txb_ j).length : Int))) N9 h) : Cl_ yJ0_length_8abf5 MJ0_length_8abf5 d bc bs [(2, 1000 + j)] N9 h Q := by
  refine s_enter pn_J0 rfl (Nat.le_of_ble_eq_true rfl) (L := [(2, _)]) rfl ?_
  have hl := (txs_ok j hj).1
  refine s_aload_n dJ0_length_8abf5_0 rfl ?_
  refine s_kfld (v := (2, 1100 + j)) (ref := "java/lang/String") dJ0_length_8abf5_1 (kx_va hj) fl_J0_9 ?_
  refine s_klen dJ0_length_8abf5_4 (kx_by hj) rfl ?_
  refine s_aload_n dJ0_length_8abf5_5 rfl ?_
  refine e_callK (d' := d - 1) (bc' := 0) (bs' := 0) (as := []) nh_0 (kx_st hj) dJ0_length_8abf5_6 vf_J0_335 (dd_ (by omega) (by decide)) ⟨Nat.zero_le _, Nat.zero_le _⟩ rfl rfl (Nat.le_of_ble_eq_true rfl) rfl ?_
  refine c_J0_coder_7d493 hj ?_
  refine s_ishr dJ0_length_8abf5_9 (by first | exact hG.2 _ _ | exact b01_in _ | assumption | exact ⟨by omega, by omega⟩) (by omega) (by omega) ?_
  refine s_ireturn dJ0_length_8abf5_10 rfl ?_
  rw [show (((txb_ j).length : Int) / 2 ^ (0 : Int).toNat) = ((txb_ j).length : Int) by simp]
  exact k
set_option maxRecDepth 100000 in
set_option maxHeartbeats 4000000 in
theorem c_J3_checkIndex_8e157 {i n : Int} {v : PV} (hi : inI i) (hn : inI n) (i0 : 0 ≤ i) (i1 : i < n) (hv : v = (4, 0) ∨ v = (2, 1305)) (k : Q.1 (some (0, i)) N9 h) : Cl_ yJ3_checkIndex_8e157 MJ3_checkIndex_8e157 d bc bs [(0, i), (0, n), v] N9 h Q := by
  refine s_enter pn_J3 rfl (by rcases hv with e | e <;> subst e <;> exact Nat.le_of_ble_eq_true rfl) (L := [(0, _), (0, _), v]) (by rcases hv with e | e <;> subst e <;> rfl) ?_
  refine s_iload_n dJ3_checkIndex_8e157_0 rfl ?_
  refine s_if_lt (tgt := 9) dJ3_checkIndex_8e157_1 (by decide) (by first | exact hG.2 _ _ | exact b01_in _ | assumption | exact ⟨by omega, by omega⟩) (fun c1 => ?_) (fun c1 => ?_)
  · exact absurd c1 (by omega)
  · refine s_iload_n dJ3_checkIndex_8e157_4 rfl ?_
    refine s_iload_n dJ3_checkIndex_8e157_5 rfl ?_
    refine s_icmp_lt (tgt := 16) dJ3_checkIndex_8e157_6 (by decide) (by first | exact hG.2 _ _ | exact b01_in _ | assumption | exact ⟨by omega, by omega⟩) (by first | exact hG.2 _ _ | exact b01_in _ | assumption | exact ⟨by omega, by omega⟩) (fun c2 => ?_) (fun c2 => ?_)
    · refine s_iload_n dJ3_checkIndex_8e157_16 rfl ?_
      exact s_ireturn dJ3_checkIndex_8e157_17 rfl k
    · exact absurd c2 (by omega)
set_option maxRecDepth 100000 in
set_option maxHeartbeats 4000000 in
theorem c_J0_checkIndex_df160 {i n : Int} (hd : 1 ≤ d) (hi : inI i) (hn : inI n) (i0 : 0 ≤ i) (i1 : i < n) (k : Q.1 none N9 h) : Cl_ yJ0_checkIndex_df160 MJ0_checkIndex_df160 d bc bs [(0, i), (0, n)] N9 h Q := by
  refine s_enter pn_J0 rfl (Nat.le_of_ble_eq_true rfl) (L := [(0, _), (0, _)]) rfl ?_
  refine s_iload_n dJ0_checkIndex_df160_0 rfl ?_
  refine s_iload_n dJ0_checkIndex_df160_1 rfl ?_
  refine s_getsF dJ0_checkIndex_df160_2 fl_J0_1053 (fun v hv => ?_)
  refine e_callS (d' := d - 1) (bc' := 0) (bs' := 0) (as := [_, _, v]) nh_0 dJ0_checkIndex_df160_5 sf_J0_1059 (dd_ (by omega) (by decide)) ⟨Nat.zero_le _, Nat.zero_le _⟩ rfl rfl (Nat.le_of_ble_eq_true rfl) ?_
  refine c_J3_checkIndex_8e157 hi hn i0 i1 hv ?_
  refine s_pop dJ0_checkIndex_df160_8 rfl ?_
  exact s_return dJ0_checkIndex_df160_9 rfl k
set_option maxRecDepth 100000 in
set_option maxHeartbeats 4000000 in
theorem c_J1_charAt_3b067 {j : Nat} {i : Int} (hj : j < 44) (hd : 2 ≤ d) (i0 : 0 ≤ i) (i1 : i < (txb_ j).length) (k : Q.1 (some (0, (txb_ j).getD i.toNat 0)) N9 h) : Cl_ yJ1_charAt_3b067 MJ1_charAt_3b067 d bc bs [(2, 1100 + j), (0, i)] N9 h Q := by
  refine s_enter pn_J1 rfl (Nat.le_of_ble_eq_true rfl) (L := [(2, _), (0, _)]) rfl ?_
  have hl := (txs_ok j hj).1
  have hb := txb_bd hj i.toNat
  refine s_iload_n dJ1_charAt_3b067_0 rfl ?_
  refine s_aload_n dJ1_charAt_3b067_1 rfl ?_
  refine s_klen dJ1_charAt_3b067_2 (kx_by hj) rfl ?_
  refine e_callS (d' := d - 1) (bc' := 0) (bs' := 0) (as := [_, _]) nh_0 dJ1_charAt_3b067_3 sf_J1_9 (dd_ (by omega) (by decide)) ⟨Nat.zero_le _, Nat.zero_le _⟩ rfl rfl (Nat.le_of_ble_eq_true rfl) ?_
  refine c_J0_checkIndex_df160 (by omega) ⟨by omega, by omega⟩ ⟨by omega, by omega⟩ i0 i1 ?_
  refine s_aload_n dJ1_charAt_3b067_6 rfl ?_
  refine s_iload_n dJ1_charAt_3b067_7 rfl ?_
  refine s_kbaload dJ1_charAt_3b067_8 (f := fun i => (txb_ j).getD i 0) (kx_by hj) (by omega) i0 i1 rfl ?_
  refine s_sipush dJ1_charAt_3b067_9 (by decide) ?_
  refine s_iand 8 dJ1_charAt_3b067_12 (by decide) (by decide) (z := 256) (by decide) ?_
  refine s_i2c dJ1_charAt_3b067_13 ?_
  rw [Int.emod_eq_of_lt (by omega) (by omega : (txb_ j).getD i.toNat 0 < 256), Int.emod_eq_of_lt (by omega) (by omega : (txb_ j).getD i.toNat 0 < 65536)]
  exact i_return dJ1_charAt_3b067_14 rfl (nch (by omega) (by omega)) k
set_option maxRecDepth 100000 in
set_option maxHeartbeats 4000000 in
theorem c_J0_charAt_5068e {j : Nat} {i : Int} (hj : j < 44) (hd : 3 ≤ d) (i0 : 0 ≤ i) (i1 : i < (txb_ j).length) (k : Q.1 (some (0, (txb_ j).getD i.toNat 0)) N9 h) : Cl_ yJ0_charAt_5068e MJ0_charAt_5068e d bc bs [(2, 1000 + j), (0, i)] N9 h Q := by
  refine s_enter pn_J0 rfl (Nat.le_of_ble_eq_true rfl) (L := [(2, _), (0, _)]) rfl ?_
  have hb := txb_bd hj i.toNat
  refine s_aload_n dJ0_charAt_5068e_0 rfl ?_
  refine e_callK (d' := d - 1) (bc' := 0) (bs' := 0) (as := []) nh_0 (kx_st hj) dJ0_charAt_5068e_1 vf_J0_492 (dd_ (by omega) (by decide)) ⟨Nat.zero_le _, Nat.zero_le _⟩ rfl rfl (Nat.le_of_ble_eq_true rfl) rfl ?_
  refine c_J0_isLatin1_aae02 hj ?_
  refine s_if_eq (tgt := 16) dJ0_charAt_5068e_4 (by decide) (by first | exact hG.2 _ _ | exact b01_in _ | assumption | exact ⟨by omega, by omega⟩) (fun c1 => ?_) (fun c1 => ?_)
  · exact absurd c1 (by decide)
  · refine s_aload_n dJ0_charAt_5068e_7 rfl ?_
    refine s_kfld (v := (2, 1100 + j)) (ref := "java/lang/String") dJ0_charAt_5068e_8 (kx_va hj) fl_J0_9 ?_
    refine s_iload_n dJ0_charAt_5068e_11 rfl ?_
    refine e_callS (d' := d - 1) (bc' := 0) (bs' := 0) (as := [_, _]) nh_0 dJ0_charAt_5068e_12 sf_J0_495 (dd_ (by omega) (by decide)) ⟨Nat.zero_le _, Nat.zero_le _⟩ rfl rfl (Nat.le_of_ble_eq_true rfl) ?_
    refine c_J1_charAt_3b067 hj (by omega) i0 i1 ?_
    exact i_return dJ0_charAt_5068e_15 rfl (nch (by omega) (by omega)) k
set_option maxRecDepth 100000 in
set_option maxHeartbeats 4000000 in
theorem c_Jx29ce0_ordinal_8abf5 {j : Nat} (hj : j < 24)  (k : Q.1 (some (0, (j : Int))) N9 h) : Cl_ yJx29ce0_ordinal_8abf5 MJx29ce0_ordinal_8abf5 d bc bs [(2, 1200 + j)] N9 h Q := by
  refine s_enter pn_Jx29ce0 rfl (Nat.le_of_ble_eq_true rfl) (L := [(2, _)]) rfl ?_
  refine s_aload_n dJx29ce0_ordinal_8abf5_0 rfl ?_
  refine s_kfld (v := (0, j)) (ref := "java/lang/Enum") dJx29ce0_ordinal_8abf5_1 (kx_or hj) fl_Jx29ce0_7 ?_
  exact s_ireturn dJx29ce0_ordinal_8abf5_4 rfl k
end J0A
