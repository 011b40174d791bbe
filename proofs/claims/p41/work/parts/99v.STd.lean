/-! the String's own methods -/
section STD
variable {d bc bs N q n : Nat} {Q : PQ} {h : PH} {f : Int → Int}
set_option maxRecDepth 100000 in
set_option maxHeartbeats 4000000 in
theorem c6_coder (hN : 199 < N) (T : ST_ h q n f) (k : Q.1 (some (0, 0)) N h) : Cl_ yJ0_coder_7d493 MJ0_coder_7d493 d bc bs [(6, (q : Int))] N h Q := by
  refine s_enter pn_J0 rfl (Nat.le_of_ble_eq_true rfl) (L := [(6, _)]) rfl ?_
  refine s_getsC dJ0_coder_7d493_0 fl_J0_38 ?_
  refine s_if_eq (tgt := 13) dJ0_coder_7d493_3 (by decide) ⟨by decide, by decide⟩ (fun c1 => ?_) (fun c1 => ?_)
  · exact absurd c1 (by decide)
  · refine s_aload6_n dJ0_coder_7d493_6 rfl ?_
    refine s_strk dJ0_coder_7d493_7 fl_J0_15 hN T ?_
    refine s_goto (tgt := 14) dJ0_coder_7d493_10 (by decide) ?_
    exact i_return dJ0_coder_7d493_14 rfl (by decide) k
set_option maxRecDepth 100000 in
set_option maxHeartbeats 4000000 in
theorem c6_isLatin1 (hN : 199 < N) (T : ST_ h q n f) (k : Q.1 (some (0, 1)) N h) : Cl_ yJ0_isLatin1_aae02 MJ0_isLatin1_aae02 d bc bs [(6, (q : Int))] N h Q := by
  refine s_enter pn_J0 rfl (Nat.le_of_ble_eq_true rfl) (L := [(6, _)]) rfl ?_
  refine s_getsC dJ0_isLatin1_aae02_0 fl_J0_38 ?_
  refine s_if_eq (tgt := 17) dJ0_isLatin1_aae02_3 (by decide) ⟨by decide, by decide⟩ (fun c1 => ?_) (fun c1 => ?_)
  · exact absurd c1 (by decide)
  · refine s_aload6_n dJ0_isLatin1_aae02_6 rfl ?_
    refine s_strk dJ0_isLatin1_aae02_7 fl_J0_15 hN T ?_
    refine s_if_ne (tgt := 17) dJ0_isLatin1_aae02_10 (by decide) ⟨by decide, by decide⟩ (fun c2 => ?_) (fun c2 => ?_)
    · exact absurd rfl c2
    · refine s_iconst dJ0_isLatin1_aae02_13 ?_
      refine s_goto (tgt := 18) dJ0_isLatin1_aae02_14 (by decide) ?_
      exact s_zreturn dJ0_isLatin1_aae02_18 rfl (Or.inr rfl) k
set_option maxRecDepth 100000 in
set_option maxHeartbeats 4000000 in
theorem c6_length (hN : 200 < N) (T : ST_ h q n f) (hn : n < 2147483648) (hd : 1 ≤ d) (k : Q.1 (some (0, (n : Int))) N h) : Cl_ yJ0_length_8abf5 MJ0_length_8abf5 d bc bs [(6, (q : Int))] N h Q := by
  refine s_enter pn_J0 rfl (Nat.le_of_ble_eq_true rfl) (L := [(6, _)]) rfl ?_
  refine s_aload6_n dJ0_length_8abf5_0 rfl ?_
  refine s_strv dJ0_length_8abf5_1 fl_J0_9 (by omega) T ?_
  refine s_strn dJ0_length_8abf5_4 hN T ?_
  refine s_aload6_n dJ0_length_8abf5_5 rfl ?_
  refine e_call6 (d' := d - 1) (bc' := 0) (bs' := 0) (as := []) nh_0 dJ0_length_8abf5_6 vf_J0_335 rfl (dd_ (by omega) (by decide)) ⟨Nat.zero_le _, Nat.zero_le _⟩ rfl rfl (Nat.le_of_ble_eq_true rfl) (by omega) T ?_
  refine c6_coder (by omega) T ?_
  refine s_ishr dJ0_length_8abf5_9 ⟨by omega, by omega⟩ (by omega) (by omega) ?_
  refine s_ireturn dJ0_length_8abf5_10 rfl ?_
  rw [show ((n : Int) / 2 ^ (0 : Int).toNat) = (n : Int) by simp]
  exact k
set_option maxRecDepth 100000 in
set_option maxHeartbeats 4000000 in
theorem c6_charAt1 {i : Int} (hN : 200 < N) (T : ST_ h q n f) (hn : n < 2147483648) (hd : 2 ≤ d) (i0 : 0 ≤ i) (i1 : i < n) (hb : 0 ≤ f i ∧ f i < 128) (k : Q.1 (some (0, f i)) N h) : Cl_ yJ1_charAt_3b067 MJ1_charAt_3b067 d bc bs [(6, ((ua_ (-9) (h 200) : Nat) : Int)), (0, i)] N h Q := by
  refine s_enter pn_J1 rfl (Nat.le_of_ble_eq_true rfl) (L := [(6, _), (0, _)]) rfl ?_
  refine s_iload_n dJ1_charAt_3b067_0 rfl ?_
  refine s_aload6_n dJ1_charAt_3b067_1 rfl ?_
  refine s_strn dJ1_charAt_3b067_2 hN T ?_
  refine e_callS (d' := d - 1) (bc' := 0) (bs' := 0) (as := [_, _]) nh_0 dJ1_charAt_3b067_3 sf_J1_9 (dd_ (by omega) (by decide)) ⟨Nat.zero_le _, Nat.zero_le _⟩ rfl rfl (Nat.le_of_ble_eq_true rfl) ?_
  refine c_J0_checkIndex_df160 (by omega) ⟨by omega, by omega⟩ ⟨by omega, by omega⟩ i0 i1 ?_
  refine s_aload6_n dJ1_charAt_3b067_6 rfl ?_
  refine s_iload_n dJ1_charAt_3b067_7 rfl ?_
  refine s_strb dJ1_charAt_3b067_8 hN T i0 i1 hn ?_
  refine s_sipush dJ1_charAt_3b067_9 (by decide) ?_
  refine s_iand 8 dJ1_charAt_3b067_12 (by decide) (by decide) (z := 256) (by decide) ?_
  refine s_i2c dJ1_charAt_3b067_13 ?_
  rw [Int.emod_eq_of_lt (by omega) (by omega : f i < 256), Int.emod_eq_of_lt (by omega) (by omega : f i < 65536)]
  exact i_return dJ1_charAt_3b067_14 rfl (nch (by omega) (by omega)) k
set_option maxRecDepth 100000 in
set_option maxHeartbeats 4000000 in
theorem c6_charAt {i : Int} (hN : 200 < N) (T : ST_ h q n f) (hn : n < 2147483648) (hd : 3 ≤ d) (i0 : 0 ≤ i) (i1 : i < n) (hb : 0 ≤ f i ∧ f i < 128) (k : Q.1 (some (0, f i)) N h) : Cl_ yJ0_charAt_5068e MJ0_charAt_5068e d bc bs [(6, (q : Int)), (0, i)] N h Q := by
  refine s_enter pn_J0 rfl (Nat.le_of_ble_eq_true rfl) (L := [(6, _), (0, _)]) rfl ?_
  refine s_aload6_n dJ0_charAt_5068e_0 rfl ?_
  refine e_call6 (d' := d - 1) (bc' := 0) (bs' := 0) (as := []) nh_0 dJ0_charAt_5068e_1 vf_J0_492 rfl (dd_ (by omega) (by decide)) ⟨Nat.zero_le _, Nat.zero_le _⟩ rfl rfl (Nat.le_of_ble_eq_true rfl) (by omega) T ?_
  refine c6_isLatin1 (by omega) T ?_
  refine s_if_eq (tgt := 16) dJ0_charAt_5068e_4 (by decide) ⟨by decide, by decide⟩ (fun c1 => ?_) (fun c1 => ?_)
  · exact absurd c1 (by decide)
  · refine s_aload6_n dJ0_charAt_5068e_7 rfl ?_
    refine s_strv dJ0_charAt_5068e_8 fl_J0_9 (by omega) T ?_
    refine s_iload_n dJ0_charAt_5068e_11 rfl ?_
    refine e_callS (d' := d - 1) (bc' := 0) (bs' := 0) (as := [_, _]) nh_0 dJ0_charAt_5068e_12 sf_J0_495 (dd_ (by omega) (by decide)) ⟨Nat.zero_le _, Nat.zero_le _⟩ rfl rfl (Nat.le_of_ble_eq_true rfl) ?_
    refine c6_charAt1 hN T hn (by omega) i0 i1 hb ?_
    exact i_return dJ0_charAt_5068e_15 rfl (nch (by omega) (by omega)) k
end STD
