/-! constructors -/
theorem in1_ : ∀ (s0 : State) (a2 : Int → Nat) (meth : Method) (c : Code), E1G_ s0 a2 meth c → meth.name = "<init>" := fun _ _ _ _ h => h.1.2
theorem eg_ : ∀ (s0 : State) (a2 : Int → Nat) (meth : Method) (c : Code), E1G_ s0 a2 meth c → Gi_ s0 := fun _ _ _ _ h => h.2
set_option maxRecDepth 100000 in
set_option maxHeartbeats 4000000 in
theorem n_4 {Q : PQ} (k : Q.1 none 15 (hI_ [(3, []), (2, []), (0, [(0, 1)])])) : CI_ yX3_init MX3_init 1 10 64 [(2, 4), (0, 8)] 5 (hI_ [(4, []), (3, []), (2, []), (0, [(0, 1)])]) Q := by
  refine s_enterJ pn_X3 rfl rfl (Nat.le_of_ble_eq_true rfl) (L := [(2, _), (0, _)]) rfl ?_
  refine s_aload_n dX3_init_0 rfl ?_
  refine s_objI dX3_init_1 ob_X3_3 (by decide) (Nat.le_of_ble_eq_true rfl) ?_
  refine s_aload_n dX3_init_4 rfl ?_
  refine s_iload_n dX3_init_5 rfl ?_
  refine r_newari (n' := 8) (a := 5) (N' := 6) (b1 := 9) (s1 := 56) dX3_init_6 aq_int (by decide +kernel) rfl (by decide) (by decide) rfl rfl (by decide +kernel) (by decide +kernel) ⟨rfl, rfl⟩ ?_
  refine s_putrN 0 dX3_init_8 fl_X3_9 kl_2 (by decide) rfl in1_ rfl ⟨by decide, by decide, (by decide +kernel)⟩ (z := 0) rfl (by decide) ?_
  rw [hk_put]
  refine s_aload_n dX3_init_11 rfl ?_
  refine s_iload_n dX3_init_12 rfl ?_
  refine s_bipush dX3_init_13 (by decide) ?_
  refine r_multib (n' := 8) (k' := 6) (a := 6) (N' := 15) (b1 := 0) (s1 := 0) dX3_init_15 eg_ cl_X3_15 (by decide +kernel) (by decide +kernel) (by decide +kernel) (by decide +kernel) rfl rfl ⟨by decide, by decide⟩ (by decide) rfl rfl ⟨rfl, rfl⟩ ?_
  refine s_putrN 2 dX3_init_19 fl_X3_17 kl_2 (by decide) rfl in1_ rfl ⟨by decide, by decide, (by decide +kernel)⟩ (z := 2) rfl (by decide) ?_
  rw [hk_put]
  rw [hi_close (by decide +kernel) (by decide +kernel)]
  exact s_return dX3_init_22 rfl k
set_option maxRecDepth 100000 in
set_option maxHeartbeats 4000000 in
theorem n_17 {Q : PQ} (k : Q.1 none 32 (hI_ [(3, [(2, 16), (1, 15), (0, 4)]), (2, []), (0, [(0, 1)])])) : CI_ yX3_init MX3_init 1 14 96 [(2, 17), (0, 12)] 18 (hI_ [(17, []), (3, [(2, 16), (1, 15), (0, 4)]), (2, []), (0, [(0, 1)])]) Q := by
  refine s_enterJ pn_X3 rfl rfl (Nat.le_of_ble_eq_true rfl) (L := [(2, _), (0, _)]) rfl ?_
  refine s_aload_n dX3_init_0 rfl ?_
  refine s_objI dX3_init_1 ob_X3_3 (by decide) (Nat.le_of_ble_eq_true rfl) ?_
  refine s_aload_n dX3_init_4 rfl ?_
  refine s_iload_n dX3_init_5 rfl ?_
  refine r_newari (n' := 12) (a := 18) (N' := 19) (b1 := 13) (s1 := 84) dX3_init_6 aq_int (by decide +kernel) rfl (by decide) (by decide) rfl rfl (by decide +kernel) (by decide +kernel) ⟨rfl, rfl⟩ ?_
  refine s_putrN 0 dX3_init_8 fl_X3_9 kl_2 (by decide) rfl in1_ rfl ⟨by decide, by decide, (by decide +kernel)⟩ (z := 0) rfl (by decide) ?_
  rw [hk_put]
  refine s_aload_n dX3_init_11 rfl ?_
  refine s_iload_n dX3_init_12 rfl ?_
  refine s_bipush dX3_init_13 (by decide) ?_
  refine r_multib (n' := 12) (k' := 6) (a := 19) (N' := 32) (b1 := 0) (s1 := 0) dX3_init_15 eg_ cl_X3_15 (by decide +kernel) (by decide +kernel) (by decide +kernel) (by decide +kernel) rfl rfl ⟨by decide, by decide⟩ (by decide) rfl rfl ⟨rfl, rfl⟩ ?_
  refine s_putrN 2 dX3_init_19 fl_X3_17 kl_2 (by decide) rfl in1_ rfl ⟨by decide, by decide, (by decide +kernel)⟩ (z := 2) rfl (by decide) ?_
  rw [hk_put]
  rw [hi_close (by decide +kernel) (by decide +kernel)]
  exact s_return dX3_init_22 rfl k
set_option maxRecDepth 100000 in
set_option maxHeartbeats 4000000 in
theorem n_3 {Q : PQ} (k : Q.1 none 40 (hI_ [(2, []), (0, [(0, 1)])])) : CI_ yX6_init MX6_init 2 36 278 [(2, 3)] 4 (hI_ [(3, []), (2, []), (0, [(0, 1)])]) Q := by
  refine s_enterJ pn_X6 rfl rfl (Nat.le_of_ble_eq_true rfl) (L := [(2, _)]) rfl ?_
  refine s_aload_n dX6_init_0 rfl ?_
  refine s_objI dX6_init_1 ob_X6_3 (by decide) (Nat.le_of_ble_eq_true rfl) ?_
  refine s_aload_n dX6_init_4 rfl ?_
  refine r_newc (ci := 2) (a := 4) (N' := 5) (b1 := 35) (s1 := 275) dX6_init_5 nc_X6_9 kl_2 nf_2 (by decide +kernel) (by decide) rfl rfl ⟨rfl, rfl⟩ ?_
  refine s_dup dX6_init_8 rfl ?_
  refine s_bipush dX6_init_9 (by decide) ?_
  refine r_callI (d' := 1) (bc' := 10) (bs' := 64) (b1 := 25) (s1 := 211) (as := [(0, 8)]) (N' := 15) nh_1G eg_ dX6_init_11 if_X6_11 (by decide) ⟨rfl, rfl⟩ rfl rfl (Nat.le_of_ble_eq_true rfl) (fun Q9 k9 => n_4 k9) ?_
  refine s_putrN 0 dX6_init_14 fl_X6_14 kl_5 (by decide) rfl in1_ rfl ⟨by decide, by decide, (by decide +kernel)⟩ (z := 0) rfl (by decide) ?_
  rw [hk_put]
  refine s_aload_n dX6_init_17 rfl ?_
  refine s_bipush dX6_init_18 (by decide) ?_
  refine r_newarz (n' := 8) (a := 15) (N' := 16) (b1 := 24) (s1 := 203) dX6_init_20 aq_boolean (by decide +kernel) rfl (by decide) (by decide) rfl rfl (by decide +kernel) (by decide +kernel) ⟨rfl, rfl⟩ ?_
  refine s_putrN 1 dX6_init_22 fl_X6_20 kl_5 (by decide) rfl in1_ rfl ⟨by decide, by decide, (by decide +kernel)⟩ (z := 1) rfl (by decide) ?_
  rw [hk_put]
  refine s_aload_n dX6_init_25 rfl ?_
  refine s_bipush dX6_init_26 (by decide) ?_
  refine r_newarz (n' := 8) (a := 16) (N' := 17) (b1 := 23) (s1 := 195) dX6_init_28 aq_boolean (by decide +kernel) rfl (by decide) (by decide) rfl rfl (by decide +kernel) (by decide +kernel) ⟨rfl, rfl⟩ ?_
  refine s_putrN 2 dX6_init_30 fl_X6_24 kl_5 (by decide) rfl in1_ rfl ⟨by decide, by decide, (by decide +kernel)⟩ (z := 2) rfl (by decide) ?_
  rw [hk_put]
  refine s_aload_n dX6_init_33 rfl ?_
  refine r_newc (ci := 2) (a := 17) (N' := 18) (b1 := 22) (s1 := 192) dX6_init_34 nc_X6_9 kl_2 nf_2 (by decide +kernel) (by decide) rfl rfl ⟨rfl, rfl⟩ ?_
  refine s_dup dX6_init_37 rfl ?_
  refine s_bipush dX6_init_38 (by decide) ?_
  refine r_callI (d' := 1) (bc' := 14) (bs' := 96) (b1 := 8) (s1 := 96) (as := [(0, 12)]) (N' := 32) nh_1G eg_ dX6_init_40 if_X6_11 (by decide) ⟨rfl, rfl⟩ rfl rfl (Nat.le_of_ble_eq_true rfl) (fun Q9 k9 => n_17 k9) ?_
  refine s_putrN 3 dX6_init_43 fl_X6_27 kl_5 (by decide) rfl in1_ rfl ⟨by decide, by decide, (by decide +kernel)⟩ (z := 3) rfl (by decide) ?_
  rw [hk_put]
  refine s_aload_n dX6_init_46 rfl ?_
  refine s_bipush dX6_init_47 (by decide) ?_
  refine r_newari (n' := 12) (a := 32) (N' := 33) (b1 := 7) (s1 := 84) dX6_init_49 aq_int (by decide +kernel) rfl (by decide) (by decide) rfl rfl (by decide +kernel) (by decide +kernel) ⟨rfl, rfl⟩ ?_
  refine s_putrN 4 dX6_init_51 fl_X6_30 kl_5 (by decide) rfl in1_ rfl ⟨by decide, by decide, (by decide +kernel)⟩ (z := 4) rfl (by decide) ?_
  rw [hk_put]
  refine s_aload_n dX6_init_54 rfl ?_
  refine s_bipush dX6_init_55 (by decide) ?_
  refine r_newarz (n' := 12) (a := 33) (N' := 34) (b1 := 6) (s1 := 72) dX6_init_57 aq_boolean (by decide +kernel) rfl (by decide) (by decide) rfl rfl (by decide +kernel) (by decide +kernel) ⟨rfl, rfl⟩ ?_
  refine s_putrN 5 dX6_init_59 fl_X6_34 kl_5 (by decide) rfl in1_ rfl ⟨by decide, by decide, (by decide +kernel)⟩ (z := 5) rfl (by decide) ?_
  rw [hk_put]
  refine s_aload_n dX6_init_62 rfl ?_
  refine s_bipush dX6_init_63 (by decide) ?_
  refine r_newarz (n' := 12) (a := 34) (N' := 35) (b1 := 5) (s1 := 60) dX6_init_65 aq_boolean (by decide +kernel) rfl (by decide) (by decide) rfl rfl (by decide +kernel) (by decide +kernel) ⟨rfl, rfl⟩ ?_
  refine s_putrN 6 dX6_init_67 fl_X6_37 kl_5 (by decide) rfl in1_ rfl ⟨by decide, by decide, (by decide +kernel)⟩ (z := 6) rfl (by decide) ?_
  rw [hk_put]
  refine s_aload_n dX6_init_70 rfl ?_
  refine s_bipush dX6_init_71 (by decide) ?_
  refine r_newari (n' := 12) (a := 35) (N' := 36) (b1 := 4) (s1 := 48) dX6_init_73 aq_int (by decide +kernel) rfl (by decide) (by decide) rfl rfl (by decide +kernel) (by decide +kernel) ⟨rfl, rfl⟩ ?_
  refine s_putrN 8 dX6_init_75 fl_X6_40 kl_5 (by decide) rfl in1_ rfl ⟨by decide, by decide, (by decide +kernel)⟩ (z := 8) rfl (by decide) ?_
  rw [hk_put]
  refine s_aload_n dX6_init_78 rfl ?_
  refine s_bipush dX6_init_79 (by decide) ?_
  refine r_newari (n' := 12) (a := 36) (N' := 37) (b1 := 3) (s1 := 36) dX6_init_81 aq_int (by decide +kernel) rfl (by decide) (by decide) rfl rfl (by decide +kernel) (by decide +kernel) ⟨rfl, rfl⟩ ?_
  refine s_putrN 9 dX6_init_83 fl_X6_43 kl_5 (by decide) rfl in1_ rfl ⟨by decide, by decide, (by decide +kernel)⟩ (z := 9) rfl (by decide) ?_
  rw [hk_put]
  refine s_aload_n dX6_init_86 rfl ?_
  refine s_bipush dX6_init_87 (by decide) ?_
  refine r_newari (n' := 12) (a := 37) (N' := 38) (b1 := 2) (s1 := 24) dX6_init_89 aq_int (by decide +kernel) rfl (by decide) (by decide) rfl rfl (by decide +kernel) (by decide +kernel) ⟨rfl, rfl⟩ ?_
  refine s_putrN 10 dX6_init_91 fl_X6_46 kl_5 (by decide) rfl in1_ rfl ⟨by decide, by decide, (by decide +kernel)⟩ (z := 10) rfl (by decide) ?_
  rw [hk_put]
  refine s_aload_n dX6_init_94 rfl ?_
  refine s_bipush dX6_init_95 (by decide) ?_
  refine r_newari (n' := 12) (a := 38) (N' := 39) (b1 := 1) (s1 := 12) dX6_init_97 aq_int (by decide +kernel) rfl (by decide) (by decide) rfl rfl (by decide +kernel) (by decide +kernel) ⟨rfl, rfl⟩ ?_
  refine s_putrN 11 dX6_init_99 fl_X6_49 kl_5 (by decide) rfl in1_ rfl ⟨by decide, by decide, (by decide +kernel)⟩ (z := 11) rfl (by decide) ?_
  rw [hk_put]
  refine s_aload_n dX6_init_102 rfl ?_
  refine s_bipush dX6_init_103 (by decide) ?_
  refine r_newari (n' := 12) (a := 39) (N' := 40) (b1 := 0) (s1 := 0) dX6_init_105 aq_int (by decide +kernel) rfl (by decide) (by decide) rfl rfl (by decide +kernel) (by decide +kernel) ⟨rfl, rfl⟩ ?_
  refine s_putrN 12 dX6_init_107 fl_X6_52 kl_5 (by decide) rfl in1_ rfl ⟨by decide, by decide, (by decide +kernel)⟩ (z := 12) rfl (by decide) ?_
  rw [hk_put]
  rw [hi_close (by decide +kernel) (by decide +kernel)]
  exact s_return dX6_init_110 rfl k
set_option maxRecDepth 100000 in
set_option maxHeartbeats 4000000 in
theorem n_40 {Q : PQ} (k : Q.1 none 42 (hI_ [(2, [(0, 3)]), (0, [(0, 1)])])) : CI_ yX2_init MX2_init 1 1 61 [(2, 40)] 41 (hI_ [(40, []), (2, [(0, 3)]), (0, [(0, 1)])]) Q := by
  refine s_enterJ pn_X2 rfl rfl (Nat.le_of_ble_eq_true rfl) (L := [(2, _)]) rfl ?_
  refine s_aload_n dX2_init_0 rfl ?_
  refine s_objI dX2_init_1 ob_X2_5 (by decide) (Nat.le_of_ble_eq_true rfl) ?_
  refine s_aload_n dX2_init_4 rfl ?_
  refine s_bipush dX2_init_5 (by decide) ?_
  refine r_newari2 (n' := 61) (a := 41) (N' := 42) (b1 := 0) (s1 := 0) dX2_init_7 aq_int (by decide +kernel) rfl (by decide) (by decide) rfl rfl ⟨rfl, rfl⟩ ?_
  refine s_putrN 0 dX2_init_9 fl_X2_11 kl_1 (by decide) rfl in1_ rfl ⟨by decide, by decide, (by decide +kernel)⟩ (z := 0) rfl (by decide) ?_
  rw [hk_put2 (by decide)]
  refine s_aload_n dX2_init_12 rfl ?_
  refine s_getr dX2_init_13 fl_X2_11 kl_1 (by decide) rfl ⟨by decide, by decide, (by decide +kernel)⟩ (z := 0) rfl (b := 41) (by decide +kernel) (by decide) ?_
  refine s_bipush dX2_init_16 (by decide) ?_
  refine s_iconst dX2_init_18 ?_
  refine s_iastoreN (n9 := 61) dX2_init_19 ⟨by decide, by decide, by decide +kernel, by decide⟩ (by decide) (by decide) ?_
  rw [hk_put]
  rw [hi_close (by decide +kernel) (by decide +kernel)]
  rw [hi_close (by decide +kernel) (by decide +kernel)]
  exact s_return dX2_init_20 rfl k
set_option maxRecDepth 100000 in
set_option maxHeartbeats 4000000 in
theorem n_2 {Q : PQ} (k : Q.1 none 42 (hI_ [(0, [(0, 1)])])) : CI_ yX4_init MX4_init 3 39 353 [(2, 2), (2, 1)] 3 (hI_ [(2, []), (0, [(0, 1)])]) Q := by
  refine s_enterJ pn_X4 rfl rfl (Nat.le_of_ble_eq_true rfl) (L := [(2, _), (2, _)]) rfl ?_
  refine s_aload_n dX4_init_0 rfl ?_
  refine s_objI dX4_init_1 ob_X4_3 (by decide) (Nat.le_of_ble_eq_true rfl) ?_
  refine s_aload_n dX4_init_4 rfl ?_
  refine r_newc (ci := 5) (a := 3) (N' := 4) (b1 := 38) (s1 := 340) dX4_init_5 nc_X4_9 kl_5 nf_5 (by decide +kernel) (by decide) rfl rfl ⟨rfl, rfl⟩ ?_
  refine s_dup dX4_init_8 rfl ?_
  refine r_callIN (d' := 2) (bc' := 36) (bs' := 278) (b1 := 2) (s1 := 62) (as := []) (N' := 40) nh_1G eg_ dX4_init_9 if_X4_11 (by decide) ⟨rfl, rfl⟩ rfl rfl (Nat.le_of_ble_eq_true rfl) (fun Q9 k9 => n_3 k9) ?_
  refine s_putrN 0 dX4_init_12 fl_X4_12 kl_3 (by decide) rfl in1_ rfl ⟨by decide, by decide, (by decide +kernel)⟩ (z := 0) rfl (by decide) ?_
  rw [hk_put]
  refine s_aload_n dX4_init_15 rfl ?_
  refine r_newc (ci := 1) (a := 40) (N' := 41) (b1 := 1) (s1 := 61) dX4_init_16 nc_X4_18 kl_1 nf_1 (by decide +kernel) (by decide) rfl rfl ⟨rfl, rfl⟩ ?_
  refine s_dup dX4_init_19 rfl ?_
  refine r_callI (d' := 1) (bc' := 1) (bs' := 61) (b1 := 0) (s1 := 0) (as := []) (N' := 42) nh_1G eg_ dX4_init_20 if_X4_20 (by decide) ⟨rfl, rfl⟩ rfl rfl (Nat.le_of_ble_eq_true rfl) (fun Q9 k9 => n_40 k9) ?_
  refine s_putrN 1 dX4_init_23 fl_X4_21 kl_3 (by decide) rfl in1_ rfl ⟨by decide, by decide, (by decide +kernel)⟩ (z := 1) rfl (by decide) ?_
  rw [hk_put]
  refine s_aload_n dX4_init_26 rfl ?_
  refine s_iconst dX4_init_27 ?_
  refine s_putiN 2 dX4_init_28 fl_X4_25 kl_3 (by decide) rfl in1_ rfl ⟨by decide, by decide, (by decide +kernel)⟩ (z := 2) rfl ?_
  rw [hk_put]
  refine s_aload_n dX4_init_31 rfl ?_
  refine s_aload_n dX4_init_32 rfl ?_
  refine s_putrN 3 dX4_init_33 fl_X4_29 kl_3 (by decide) rfl in1_ rfl ⟨by decide, by decide, (by decide +kernel)⟩ (z := 3) rfl (by decide) ?_
  rw [hk_put]
  rw [hi_close (by decide +kernel) (by decide +kernel)]
  exact s_return dX4_init_36 rfl k
set_option maxRecDepth 100000 in
set_option maxHeartbeats 4000000 in
theorem n_43 {Q : PQ} (k : Q.1 none 54 (hI_ [(42, []), (0, [(2, 2), (0, 1)])])) : CI_ yX3_init MX3_init 1 10 64 [(2, 43), (0, 8)] 44 (hI_ [(43, []), (42, []), (0, [(2, 2), (0, 1)])]) Q := by
  refine s_enterJ pn_X3 rfl rfl (Nat.le_of_ble_eq_true rfl) (L := [(2, _), (0, _)]) rfl ?_
  refine s_aload_n dX3_init_0 rfl ?_
  refine s_objI dX3_init_1 ob_X3_3 (by decide) (Nat.le_of_ble_eq_true rfl) ?_
  refine s_aload_n dX3_init_4 rfl ?_
  refine s_iload_n dX3_init_5 rfl ?_
  refine r_newari (n' := 8) (a := 44) (N' := 45) (b1 := 9) (s1 := 56) dX3_init_6 aq_int (by decide +kernel) rfl (by decide) (by decide) rfl rfl (by decide +kernel) (by decide +kernel) ⟨rfl, rfl⟩ ?_
  refine s_putrN 0 dX3_init_8 fl_X3_9 kl_2 (by decide) rfl in1_ rfl ⟨by decide, by decide, (by decide +kernel)⟩ (z := 0) rfl (by decide) ?_
  rw [hk_put]
  refine s_aload_n dX3_init_11 rfl ?_
  refine s_iload_n dX3_init_12 rfl ?_
  refine s_bipush dX3_init_13 (by decide) ?_
  refine r_multib (n' := 8) (k' := 6) (a := 45) (N' := 54) (b1 := 0) (s1 := 0) dX3_init_15 eg_ cl_X3_15 (by decide +kernel) (by decide +kernel) (by decide +kernel) (by decide +kernel) rfl rfl ⟨by decide, by decide⟩ (by decide) rfl rfl ⟨rfl, rfl⟩ ?_
  refine s_putrN 2 dX3_init_19 fl_X3_17 kl_2 (by decide) rfl in1_ rfl ⟨by decide, by decide, (by decide +kernel)⟩ (z := 2) rfl (by decide) ?_
  rw [hk_put]
  rw [hi_close (by decide +kernel) (by decide +kernel)]
  exact s_return dX3_init_22 rfl k
set_option maxRecDepth 100000 in
set_option maxHeartbeats 4000000 in
theorem n_56 {Q : PQ} (k : Q.1 none 71 (hI_ [(42, [(2, 55), (1, 54), (0, 43)]), (0, [(2, 2), (0, 1)])])) : CI_ yX3_init MX3_init 1 14 96 [(2, 56), (0, 12)] 57 (hI_ [(56, []), (42, [(2, 55), (1, 54), (0, 43)]), (0, [(2, 2), (0, 1)])]) Q := by
  refine s_enterJ pn_X3 rfl rfl (Nat.le_of_ble_eq_true rfl) (L := [(2, _), (0, _)]) rfl ?_
  refine s_aload_n dX3_init_0 rfl ?_
  refine s_objI dX3_init_1 ob_X3_3 (by decide) (Nat.le_of_ble_eq_true rfl) ?_
  refine s_aload_n dX3_init_4 rfl ?_
  refine s_iload_n dX3_init_5 rfl ?_
  refine r_newari (n' := 12) (a := 57) (N' := 58) (b1 := 13) (s1 := 84) dX3_init_6 aq_int (by decide +kernel) rfl (by decide) (by decide) rfl rfl (by decide +kernel) (by decide +kernel) ⟨rfl, rfl⟩ ?_
  refine s_putrN 0 dX3_init_8 fl_X3_9 kl_2 (by decide) rfl in1_ rfl ⟨by decide, by decide, (by decide +kernel)⟩ (z := 0) rfl (by decide) ?_
  rw [hk_put]
  refine s_aload_n dX3_init_11 rfl ?_
  refine s_iload_n dX3_init_12 rfl ?_
  refine s_bipush dX3_init_13 (by decide) ?_
  refine r_multib (n' := 12) (k' := 6) (a := 58) (N' := 71) (b1 := 0) (s1 := 0) dX3_init_15 eg_ cl_X3_15 (by decide +kernel) (by decide +kernel) (by decide +kernel) (by decide +kernel) rfl rfl ⟨by decide, by decide⟩ (by decide) rfl rfl ⟨rfl, rfl⟩ ?_
  refine s_putrN 2 dX3_init_19 fl_X3_17 kl_2 (by decide) rfl in1_ rfl ⟨by decide, by decide, (by decide +kernel)⟩ (z := 2) rfl (by decide) ?_
  rw [hk_put]
  rw [hi_close (by decide +kernel) (by decide +kernel)]
  exact s_return dX3_init_22 rfl k
set_option maxRecDepth 100000 in
set_option maxHeartbeats 4000000 in
theorem n_42 {Q : PQ} (k : Q.1 none 79 (hI_ [(0, [(2, 2), (0, 1)])])) : CI_ yX6_init MX6_init 2 36 278 [(2, 42)] 43 (hI_ [(42, []), (0, [(2, 2), (0, 1)])]) Q := by
  refine s_enterJ pn_X6 rfl rfl (Nat.le_of_ble_eq_true rfl) (L := [(2, _)]) rfl ?_
  refine s_aload_n dX6_init_0 rfl ?_
  refine s_objI dX6_init_1 ob_X6_3 (by decide) (Nat.le_of_ble_eq_true rfl) ?_
  refine s_aload_n dX6_init_4 rfl ?_
  refine r_newc (ci := 2) (a := 43) (N' := 44) (b1 := 35) (s1 := 275) dX6_init_5 nc_X6_9 kl_2 nf_2 (by decide +kernel) (by decide) rfl rfl ⟨rfl, rfl⟩ ?_
  refine s_dup dX6_init_8 rfl ?_
  refine s_bipush dX6_init_9 (by decide) ?_
  refine r_callI (d' := 1) (bc' := 10) (bs' := 64) (b1 := 25) (s1 := 211) (as := [(0, 8)]) (N' := 54) nh_1G eg_ dX6_init_11 if_X6_11 (by decide) ⟨rfl, rfl⟩ rfl rfl (Nat.le_of_ble_eq_true rfl) (fun Q9 k9 => n_43 k9) ?_
  refine s_putrN 0 dX6_init_14 fl_X6_14 kl_5 (by decide) rfl in1_ rfl ⟨by decide, by decide, (by decide +kernel)⟩ (z := 0) rfl (by decide) ?_
  rw [hk_put]
  refine s_aload_n dX6_init_17 rfl ?_
  refine s_bipush dX6_init_18 (by decide) ?_
  refine r_newarz (n' := 8) (a := 54) (N' := 55) (b1 := 24) (s1 := 203) dX6_init_20 aq_boolean (by decide +kernel) rfl (by decide) (by decide) rfl rfl (by decide +kernel) (by decide +kernel) ⟨rfl, rfl⟩ ?_
  refine s_putrN 1 dX6_init_22 fl_X6_20 kl_5 (by decide) rfl in1_ rfl ⟨by decide, by decide, (by decide +kernel)⟩ (z := 1) rfl (by decide) ?_
  rw [hk_put]
  refine s_aload_n dX6_init_25 rfl ?_
  refine s_bipush dX6_init_26 (by decide) ?_
  refine r_newarz (n' := 8) (a := 55) (N' := 56) (b1 := 23) (s1 := 195) dX6_init_28 aq_boolean (by decide +kernel) rfl (by decide) (by decide) rfl rfl (by decide +kernel) (by decide +kernel) ⟨rfl, rfl⟩ ?_
  refine s_putrN 2 dX6_init_30 fl_X6_24 kl_5 (by decide) rfl in1_ rfl ⟨by decide, by decide, (by decide +kernel)⟩ (z := 2) rfl (by decide) ?_
  rw [hk_put]
  refine s_aload_n dX6_init_33 rfl ?_
  refine r_newc (ci := 2) (a := 56) (N' := 57) (b1 := 22) (s1 := 192) dX6_init_34 nc_X6_9 kl_2 nf_2 (by decide +kernel) (by decide) rfl rfl ⟨rfl, rfl⟩ ?_
  refine s_dup dX6_init_37 rfl ?_
  refine s_bipush dX6_init_38 (by decide) ?_
  refine r_callI (d' := 1) (bc' := 14) (bs' := 96) (b1 := 8) (s1 := 96) (as := [(0, 12)]) (N' := 71) nh_1G eg_ dX6_init_40 if_X6_11 (by decide) ⟨rfl, rfl⟩ rfl rfl (Nat.le_of_ble_eq_true rfl) (fun Q9 k9 => n_56 k9) ?_
  refine s_putrN 3 dX6_init_43 fl_X6_27 kl_5 (by decide) rfl in1_ rfl ⟨by decide, by decide, (by decide +kernel)⟩ (z := 3) rfl (by decide) ?_
  rw [hk_put]
  refine s_aload_n dX6_init_46 rfl ?_
  refine s_bipush dX6_init_47 (by decide) ?_
  refine r_newari (n' := 12) (a := 71) (N' := 72) (b1 := 7) (s1 := 84) dX6_init_49 aq_int (by decide +kernel) rfl (by decide) (by decide) rfl rfl (by decide +kernel) (by decide +kernel) ⟨rfl, rfl⟩ ?_
  refine s_putrN 4 dX6_init_51 fl_X6_30 kl_5 (by decide) rfl in1_ rfl ⟨by decide, by decide, (by decide +kernel)⟩ (z := 4) rfl (by decide) ?_
  rw [hk_put]
  refine s_aload_n dX6_init_54 rfl ?_
  refine s_bipush dX6_init_55 (by decide) ?_
  refine r_newarz (n' := 12) (a := 72) (N' := 73) (b1 := 6) (s1 := 72) dX6_init_57 aq_boolean (by decide +kernel) rfl (by decide) (by decide) rfl rfl (by decide +kernel) (by decide +kernel) ⟨rfl, rfl⟩ ?_
  refine s_putrN 5 dX6_init_59 fl_X6_34 kl_5 (by decide) rfl in1_ rfl ⟨by decide, by decide, (by decide +kernel)⟩ (z := 5) rfl (by decide) ?_
  rw [hk_put]
  refine s_aload_n dX6_init_62 rfl ?_
  refine s_bipush dX6_init_63 (by decide) ?_
  refine r_newarz (n' := 12) (a := 73) (N' := 74) (b1 := 5) (s1 := 60) dX6_init_65 aq_boolean (by decide +kernel) rfl (by decide) (by decide) rfl rfl (by decide +kernel) (by decide +kernel) ⟨rfl, rfl⟩ ?_
  refine s_putrN 6 dX6_init_67 fl_X6_37 kl_5 (by decide) rfl in1_ rfl ⟨by decide, by decide, (by decide +kernel)⟩ (z := 6) rfl (by decide) ?_
  rw [hk_put]
  refine s_aload_n dX6_init_70 rfl ?_
  refine s_bipush dX6_init_71 (by decide) ?_
  refine r_newari (n' := 12) (a := 74) (N' := 75) (b1 := 4) (s1 := 48) dX6_init_73 aq_int (by decide +kernel) rfl (by decide) (by decide) rfl rfl (by decide +kernel) (by decide +kernel) ⟨rfl, rfl⟩ ?_
  refine s_putrN 8 dX6_init_75 fl_X6_40 kl_5 (by decide) rfl in1_ rfl ⟨by decide, by decide, (by decide +kernel)⟩ (z := 8) rfl (by decide) ?_
  rw [hk_put]
  refine s_aload_n dX6_init_78 rfl ?_
  refine s_bipush dX6_init_79 (by decide) ?_
  refine r_newari (n' := 12) (a := 75) (N' := 76) (b1 := 3) (s1 := 36) dX6_init_81 aq_int (by decide +kernel) rfl (by decide) (by decide) rfl rfl (by decide +kernel) (by decide +kernel) ⟨rfl, rfl⟩ ?_
  refine s_putrN 9 dX6_init_83 fl_X6_43 kl_5 (by decide) rfl in1_ rfl ⟨by decide, by decide, (by decide +kernel)⟩ (z := 9) rfl (by decide) ?_
  rw [hk_put]
  refine s_aload_n dX6_init_86 rfl ?_
  refine s_bipush dX6_init_87 (by decide) ?_
  refine r_newari (n' := 12) (a := 76) (N' := 77) (b1 := 2) (s1 := 24) dX6_init_89 aq_int (by decide +kernel) rfl (by decide) (by decide) rfl rfl (by decide +kernel) (by decide +kernel) ⟨rfl, rfl⟩ ?_
  refine s_putrN 10 dX6_init_91 fl_X6_46 kl_5 (by decide) rfl in1_ rfl ⟨by decide, by decide, (by decide +kernel)⟩ (z := 10) rfl (by decide) ?_
  rw [hk_put]
  refine s_aload_n dX6_init_94 rfl ?_
  refine s_bipush dX6_init_95 (by decide) ?_
  refine r_newari (n' := 12) (a := 77) (N' := 78) (b1 := 1) (s1 := 12) dX6_init_97 aq_int (by decide +kernel) rfl (by decide) (by decide) rfl rfl (by decide +kernel) (by decide +kernel) ⟨rfl, rfl⟩ ?_
  refine s_putrN 11 dX6_init_99 fl_X6_49 kl_5 (by decide) rfl in1_ rfl ⟨by decide, by decide, (by decide +kernel)⟩ (z := 11) rfl (by decide) ?_
  rw [hk_put]
  refine s_aload_n dX6_init_102 rfl ?_
  refine s_bipush dX6_init_103 (by decide) ?_
  refine r_newari (n' := 12) (a := 78) (N' := 79) (b1 := 0) (s1 := 0) dX6_init_105 aq_int (by decide +kernel) rfl (by decide) (by decide) rfl rfl (by decide +kernel) (by decide +kernel) ⟨rfl, rfl⟩ ?_
  refine s_putrN 12 dX6_init_107 fl_X6_52 kl_5 (by decide) rfl in1_ rfl ⟨by decide, by decide, (by decide +kernel)⟩ (z := 12) rfl (by decide) ?_
  rw [hk_put]
  rw [hi_close (by decide +kernel) (by decide +kernel)]
  exact s_return dX6_init_110 rfl k
set_option maxRecDepth 100000 in
set_option maxHeartbeats 4000000 in
theorem n_79 {Q : PQ} (k : Q.1 none 81 (hI_ [(0, [(3, 42), (2, 2), (0, 1)])])) : CI_ yX2_init MX2_init 1 1 61 [(2, 79)] 80 (hI_ [(79, []), (0, [(3, 42), (2, 2), (0, 1)])]) Q := by
  refine s_enterJ pn_X2 rfl rfl (Nat.le_of_ble_eq_true rfl) (L := [(2, _)]) rfl ?_
  refine s_aload_n dX2_init_0 rfl ?_
  refine s_objI dX2_init_1 ob_X2_5 (by decide) (Nat.le_of_ble_eq_true rfl) ?_
  refine s_aload_n dX2_init_4 rfl ?_
  refine s_bipush dX2_init_5 (by decide) ?_
  refine r_newari2 (n' := 61) (a := 80) (N' := 81) (b1 := 0) (s1 := 0) dX2_init_7 aq_int (by decide +kernel) rfl (by decide) (by decide) rfl rfl ⟨rfl, rfl⟩ ?_
  refine s_putrN 0 dX2_init_9 fl_X2_11 kl_1 (by decide) rfl in1_ rfl ⟨by decide, by decide, (by decide +kernel)⟩ (z := 0) rfl (by decide) ?_
  rw [hk_put2 (by decide)]
  refine s_aload_n dX2_init_12 rfl ?_
  refine s_getr dX2_init_13 fl_X2_11 kl_1 (by decide) rfl ⟨by decide, by decide, (by decide +kernel)⟩ (z := 0) rfl (b := 80) (by decide +kernel) (by decide) ?_
  refine s_bipush dX2_init_16 (by decide) ?_
  refine s_iconst dX2_init_18 ?_
  refine s_iastoreN (n9 := 61) dX2_init_19 ⟨by decide, by decide, by decide +kernel, by decide⟩ (by decide) (by decide) ?_
  rw [hk_put]
  rw [hi_close (by decide +kernel) (by decide +kernel)]
  rw [hi_close (by decide +kernel) (by decide +kernel)]
  exact s_return dX2_init_20 rfl k
set_option maxRecDepth 100000 in
set_option maxHeartbeats 4000000 in
theorem n_81 {Q : PQ} (k : Q.1 none 99 (hI_ [(0, [(4, 79), (3, 42), (2, 2), (0, 1)])])) : CI_ yX1_init MX1_init 1 17 992 [(2, 81)] 82 (hI_ [(81, []), (0, [(4, 79), (3, 42), (2, 2), (0, 1)])]) Q := by
  refine s_enterJ pn_X1 rfl rfl (Nat.le_of_ble_eq_true rfl) (L := [(2, _)]) rfl ?_
  refine s_aload_n dX1_init_0 rfl ?_
  refine s_objI dX1_init_1 ob_X1_3 (by decide) (Nat.le_of_ble_eq_true rfl) ?_
  refine s_aload_n dX1_init_4 rfl ?_
  refine s_bipush dX1_init_5 (by decide) ?_
  refine s_bipush dX1_init_7 (by decide) ?_
  refine r_multii (n' := 16) (k' := 61) (a := 82) (N' := 99) (b1 := 0) (s1 := 0) dX1_init_9 eg_ cl_X1_11 (by decide +kernel) (by decide +kernel) (by decide +kernel) (by decide +kernel) rfl rfl ⟨by decide, by decide⟩ (by decide) rfl rfl ⟨rfl, rfl⟩ ?_
  refine s_putrN 0 dX1_init_13 fl_X1_13 kl_0 (by decide) rfl in1_ rfl ⟨by decide, by decide, (by decide +kernel)⟩ (z := 0) rfl (by decide) ?_
  rw [hk_put]
  rw [hi_close (by decide +kernel) (by decide +kernel)]
  exact s_return dX1_init_16 rfl k
set_option maxRecDepth 100000 in
set_option maxHeartbeats 4000000 in
theorem n_99 {Q : PQ} (k : Q.1 none 146 (hI_ [(0, [(5, 81), (4, 79), (3, 42), (2, 2), (0, 1)])])) : CI_ yX5_init MX5_init 1 46 428 [(2, 99), (2, 42), (2, 79)] 100 (hI_ [(99, []), (0, [(5, 81), (4, 79), (3, 42), (2, 2), (0, 1)])]) Q := by
  refine s_enterJ pn_X5 rfl rfl (Nat.le_of_ble_eq_true rfl) (L := [(2, _), (2, _), (2, _)]) rfl ?_
  refine s_aload_n dX5_init_0 rfl ?_
  refine s_objI dX5_init_1 ob_X5_3 (by decide) (Nat.le_of_ble_eq_true rfl) ?_
  refine s_aload_n dX5_init_4 rfl ?_
  refine s_bipush dX5_init_5 (by decide) ?_
  refine r_newari (n' := 12) (a := 100) (N' := 101) (b1 := 45) (s1 := 416) dX5_init_7 aq_int (by decide +kernel) rfl (by decide) (by decide) rfl rfl (by decide +kernel) (by decide +kernel) ⟨rfl, rfl⟩ ?_
  refine s_putrN 0 dX5_init_9 fl_X5_9 kl_4 (by decide) rfl in1_ rfl ⟨by decide, by decide, (by decide +kernel)⟩ (z := 0) rfl (by decide) ?_
  rw [hk_put]
  refine s_aload_n dX5_init_12 rfl ?_
  refine s_bipush dX5_init_13 (by decide) ?_
  refine r_newarz (n' := 12) (a := 101) (N' := 102) (b1 := 44) (s1 := 404) dX5_init_15 aq_boolean (by decide +kernel) rfl (by decide) (by decide) rfl rfl (by decide +kernel) (by decide +kernel) ⟨rfl, rfl⟩ ?_
  refine s_putrN 1 dX5_init_17 fl_X5_15 kl_4 (by decide) rfl in1_ rfl ⟨by decide, by decide, (by decide +kernel)⟩ (z := 1) rfl (by decide) ?_
  rw [hk_put]
  refine s_aload_n dX5_init_20 rfl ?_
  refine s_bipush dX5_init_21 (by decide) ?_
  refine r_newari (n' := 8) (a := 102) (N' := 103) (b1 := 43) (s1 := 396) dX5_init_23 aq_int (by decide +kernel) rfl (by decide) (by decide) rfl rfl (by decide +kernel) (by decide +kernel) ⟨rfl, rfl⟩ ?_
  refine s_putrN 2 dX5_init_25 fl_X5_19 kl_4 (by decide) rfl in1_ rfl ⟨by decide, by decide, (by decide +kernel)⟩ (z := 2) rfl (by decide) ?_
  rw [hk_put]
  refine s_aload_n dX5_init_28 rfl ?_
  refine s_bipush dX5_init_29 (by decide) ?_
  refine s_bipush dX5_init_31 (by decide) ?_
  refine r_multii (n' := 12) (k' := 7) (a := 103) (N' := 116) (b1 := 30) (s1 := 300) dX5_init_33 eg_ cl_X5_22 (by decide +kernel) (by decide +kernel) (by decide +kernel) (by decide +kernel) rfl rfl ⟨by decide, by decide⟩ (by decide) rfl rfl ⟨rfl, rfl⟩ ?_
  refine s_putrN 3 dX5_init_37 fl_X5_24 kl_4 (by decide) rfl in1_ rfl ⟨by decide, by decide, (by decide +kernel)⟩ (z := 3) rfl (by decide) ?_
  rw [hk_put]
  refine s_aload_n dX5_init_40 rfl ?_
  refine s_bipush dX5_init_41 (by decide) ?_
  refine s_bipush dX5_init_43 (by decide) ?_
  refine r_multii (n' := 12) (k' := 7) (a := 116) (N' := 129) (b1 := 17) (s1 := 204) dX5_init_45 eg_ cl_X5_22 (by decide +kernel) (by decide +kernel) (by decide +kernel) (by decide +kernel) rfl rfl ⟨by decide, by decide⟩ (by decide) rfl rfl ⟨rfl, rfl⟩ ?_
  refine s_putrN 4 dX5_init_49 fl_X5_27 kl_4 (by decide) rfl in1_ rfl ⟨by decide, by decide, (by decide +kernel)⟩ (z := 4) rfl (by decide) ?_
  rw [hk_put]
  refine s_aload_n dX5_init_52 rfl ?_
  refine s_bipush dX5_init_53 (by decide) ?_
  refine s_bipush dX5_init_55 (by decide) ?_
  refine r_multii (n' := 12) (k' := 12) (a := 129) (N' := 142) (b1 := 4) (s1 := 48) dX5_init_57 eg_ cl_X5_22 (by decide +kernel) (by decide +kernel) (by decide +kernel) (by decide +kernel) rfl rfl ⟨by decide, by decide⟩ (by decide) rfl rfl ⟨rfl, rfl⟩ ?_
  refine s_putrN 5 dX5_init_61 fl_X5_30 kl_4 (by decide) rfl in1_ rfl ⟨by decide, by decide, (by decide +kernel)⟩ (z := 5) rfl (by decide) ?_
  rw [hk_put]
  refine s_aload_n dX5_init_64 rfl ?_
  refine s_bipush dX5_init_65 (by decide) ?_
  refine r_newari (n' := 12) (a := 142) (N' := 143) (b1 := 3) (s1 := 36) dX5_init_67 aq_int (by decide +kernel) rfl (by decide) (by decide) rfl rfl (by decide +kernel) (by decide +kernel) ⟨rfl, rfl⟩ ?_
  refine s_putrN 6 dX5_init_69 fl_X5_33 kl_4 (by decide) rfl in1_ rfl ⟨by decide, by decide, (by decide +kernel)⟩ (z := 6) rfl (by decide) ?_
  rw [hk_put]
  refine s_aload_n dX5_init_72 rfl ?_
  refine s_bipush dX5_init_73 (by decide) ?_
  refine r_newari (n' := 12) (a := 143) (N' := 144) (b1 := 2) (s1 := 24) dX5_init_75 aq_int (by decide +kernel) rfl (by decide) (by decide) rfl rfl (by decide +kernel) (by decide +kernel) ⟨rfl, rfl⟩ ?_
  refine s_putrN 16 dX5_init_77 fl_X5_36 kl_4 (by decide) rfl in1_ rfl ⟨by decide, by decide, (by decide +kernel)⟩ (z := 16) rfl (by decide) ?_
  rw [hk_put]
  refine s_aload_n dX5_init_80 rfl ?_
  refine s_bipush dX5_init_81 (by decide) ?_
  refine r_newarl (n' := 12) (a := 144) (N' := 145) (b1 := 1) (s1 := 12) dX5_init_83 aq_long (by decide +kernel) rfl (by decide) (by decide) rfl rfl (by decide +kernel) (by decide +kernel) ⟨rfl, rfl⟩ ?_
  refine s_putrN 17 dX5_init_85 fl_X5_39 kl_4 (by decide) rfl in1_ rfl ⟨by decide, by decide, (by decide +kernel)⟩ (z := 17) rfl (by decide) ?_
  rw [hk_put]
  refine s_aload_n dX5_init_88 rfl ?_
  refine s_bipush dX5_init_89 (by decide) ?_
  refine r_newari (n' := 12) (a := 145) (N' := 146) (b1 := 0) (s1 := 0) dX5_init_91 aq_int (by decide +kernel) rfl (by decide) (by decide) rfl rfl (by decide +kernel) (by decide +kernel) ⟨rfl, rfl⟩ ?_
  refine s_putrN 18 dX5_init_93 fl_X5_43 kl_4 (by decide) rfl in1_ rfl ⟨by decide, by decide, (by decide +kernel)⟩ (z := 18) rfl (by decide) ?_
  rw [hk_put]
  refine s_aload_n dX5_init_96 rfl ?_
  refine s_aload_n dX5_init_97 rfl ?_
  refine s_putrN 14 dX5_init_98 fl_X5_46 kl_4 (by decide) rfl in1_ rfl ⟨by decide, by decide, (by decide +kernel)⟩ (z := 14) rfl (by decide) ?_
  rw [hk_put]
  refine s_aload_n dX5_init_101 rfl ?_
  refine s_aload_n dX5_init_102 rfl ?_
  refine s_putrN 15 dX5_init_103 fl_X5_50 kl_4 (by decide) rfl in1_ rfl ⟨by decide, by decide, (by decide +kernel)⟩ (z := 15) rfl (by decide) ?_
  rw [hk_put]
  rw [hi_close (by decide +kernel) (by decide +kernel)]
  exact s_return dX5_init_106 rfl k
set_option maxRecDepth 100000 in
set_option maxHeartbeats 4000000 in
theorem n_146 {Q : PQ} (k : Q.1 none 148 (hI_ [(0, [(7, 1), (6, 99), (5, 81), (4, 79), (3, 42), (2, 2), (0, 1)])])) : CI_ yX2_init MX2_init 1 1 61 [(2, 146)] 147 (hI_ [(146, []), (0, [(7, 1), (6, 99), (5, 81), (4, 79), (3, 42), (2, 2), (0, 1)])]) Q := by
  refine s_enterJ pn_X2 rfl rfl (Nat.le_of_ble_eq_true rfl) (L := [(2, _)]) rfl ?_
  refine s_aload_n dX2_init_0 rfl ?_
  refine s_objI dX2_init_1 ob_X2_5 (by decide) (Nat.le_of_ble_eq_true rfl) ?_
  refine s_aload_n dX2_init_4 rfl ?_
  refine s_bipush dX2_init_5 (by decide) ?_
  refine r_newari2 (n' := 61) (a := 147) (N' := 148) (b1 := 0) (s1 := 0) dX2_init_7 aq_int (by decide +kernel) rfl (by decide) (by decide) rfl rfl ⟨rfl, rfl⟩ ?_
  refine s_putrN 0 dX2_init_9 fl_X2_11 kl_1 (by decide) rfl in1_ rfl ⟨by decide, by decide, (by decide +kernel)⟩ (z := 0) rfl (by decide) ?_
  rw [hk_put2 (by decide)]
  refine s_aload_n dX2_init_12 rfl ?_
  refine s_getr dX2_init_13 fl_X2_11 kl_1 (by decide) rfl ⟨by decide, by decide, (by decide +kernel)⟩ (z := 0) rfl (b := 147) (by decide +kernel) (by decide) ?_
  refine s_bipush dX2_init_16 (by decide) ?_
  refine s_iconst dX2_init_18 ?_
  refine s_iastoreN (n9 := 61) dX2_init_19 ⟨by decide, by decide, by decide +kernel, by decide⟩ (by decide) (by decide) ?_
  rw [hk_put]
  rw [hi_close (by decide +kernel) (by decide +kernel)]
  rw [hi_close (by decide +kernel) (by decide +kernel)]
  exact s_return dX2_init_20 rfl k
set_option maxRecDepth 100000 in
set_option maxHeartbeats 4000000 in
theorem n_148 {Q : PQ} (k : Q.1 none 195 (hI_ [(0, [(8, 146), (7, 1), (6, 99), (5, 81), (4, 79), (3, 42), (2, 2), (0, 1)])])) : CI_ yX5_init MX5_init 1 46 428 [(2, 148), (2, 42), (2, 146)] 149 (hI_ [(148, []), (0, [(8, 146), (7, 1), (6, 99), (5, 81), (4, 79), (3, 42), (2, 2), (0, 1)])]) Q := by
  refine s_enterJ pn_X5 rfl rfl (Nat.le_of_ble_eq_true rfl) (L := [(2, _), (2, _), (2, _)]) rfl ?_
  refine s_aload_n dX5_init_0 rfl ?_
  refine s_objI dX5_init_1 ob_X5_3 (by decide) (Nat.le_of_ble_eq_true rfl) ?_
  refine s_aload_n dX5_init_4 rfl ?_
  refine s_bipush dX5_init_5 (by decide) ?_
  refine r_newari (n' := 12) (a := 149) (N' := 150) (b1 := 45) (s1 := 416) dX5_init_7 aq_int (by decide +kernel) rfl (by decide) (by decide) rfl rfl (by decide +kernel) (by decide +kernel) ⟨rfl, rfl⟩ ?_
  refine s_putrN 0 dX5_init_9 fl_X5_9 kl_4 (by decide) rfl in1_ rfl ⟨by decide, by decide, (by decide +kernel)⟩ (z := 0) rfl (by decide) ?_
  rw [hk_put]
  refine s_aload_n dX5_init_12 rfl ?_
  refine s_bipush dX5_init_13 (by decide) ?_
  refine r_newarz (n' := 12) (a := 150) (N' := 151) (b1 := 44) (s1 := 404) dX5_init_15 aq_boolean (by decide +kernel) rfl (by decide) (by decide) rfl rfl (by decide +kernel) (by decide +kernel) ⟨rfl, rfl⟩ ?_
  refine s_putrN 1 dX5_init_17 fl_X5_15 kl_4 (by decide) rfl in1_ rfl ⟨by decide, by decide, (by decide +kernel)⟩ (z := 1) rfl (by decide) ?_
  rw [hk_put]
  refine s_aload_n dX5_init_20 rfl ?_
  refine s_bipush dX5_init_21 (by decide) ?_
  refine r_newari (n' := 8) (a := 151) (N' := 152) (b1 := 43) (s1 := 396) dX5_init_23 aq_int (by decide +kernel) rfl (by decide) (by decide) rfl rfl (by decide +kernel) (by decide +kernel) ⟨rfl, rfl⟩ ?_
  refine s_putrN 2 dX5_init_25 fl_X5_19 kl_4 (by decide) rfl in1_ rfl ⟨by decide, by decide, (by decide +kernel)⟩ (z := 2) rfl (by decide) ?_
  rw [hk_put]
  refine s_aload_n dX5_init_28 rfl ?_
  refine s_bipush dX5_init_29 (by decide) ?_
  refine s_bipush dX5_init_31 (by decide) ?_
  refine r_multii (n' := 12) (k' := 7) (a := 152) (N' := 165) (b1 := 30) (s1 := 300) dX5_init_33 eg_ cl_X5_22 (by decide +kernel) (by decide +kernel) (by decide +kernel) (by decide +kernel) rfl rfl ⟨by decide, by decide⟩ (by decide) rfl rfl ⟨rfl, rfl⟩ ?_
  refine s_putrN 3 dX5_init_37 fl_X5_24 kl_4 (by decide) rfl in1_ rfl ⟨by decide, by decide, (by decide +kernel)⟩ (z := 3) rfl (by decide) ?_
  rw [hk_put]
  refine s_aload_n dX5_init_40 rfl ?_
  refine s_bipush dX5_init_41 (by decide) ?_
  refine s_bipush dX5_init_43 (by decide) ?_
  refine r_multii (n' := 12) (k' := 7) (a := 165) (N' := 178) (b1 := 17) (s1 := 204) dX5_init_45 eg_ cl_X5_22 (by decide +kernel) (by decide +kernel) (by decide +kernel) (by decide +kernel) rfl rfl ⟨by decide, by decide⟩ (by decide) rfl rfl ⟨rfl, rfl⟩ ?_
  refine s_putrN 4 dX5_init_49 fl_X5_27 kl_4 (by decide) rfl in1_ rfl ⟨by decide, by decide, (by decide +kernel)⟩ (z := 4) rfl (by decide) ?_
  rw [hk_put]
  refine s_aload_n dX5_init_52 rfl ?_
  refine s_bipush dX5_init_53 (by decide) ?_
  refine s_bipush dX5_init_55 (by decide) ?_
  refine r_multii (n' := 12) (k' := 12) (a := 178) (N' := 191) (b1 := 4) (s1 := 48) dX5_init_57 eg_ cl_X5_22 (by decide +kernel) (by decide +kernel) (by decide +kernel) (by decide +kernel) rfl rfl ⟨by decide, by decide⟩ (by decide) rfl rfl ⟨rfl, rfl⟩ ?_
  refine s_putrN 5 dX5_init_61 fl_X5_30 kl_4 (by decide) rfl in1_ rfl ⟨by decide, by decide, (by decide +kernel)⟩ (z := 5) rfl (by decide) ?_
  rw [hk_put]
  refine s_aload_n dX5_init_64 rfl ?_
  refine s_bipush dX5_init_65 (by decide) ?_
  refine r_newari (n' := 12) (a := 191) (N' := 192) (b1 := 3) (s1 := 36) dX5_init_67 aq_int (by decide +kernel) rfl (by decide) (by decide) rfl rfl (by decide +kernel) (by decide +kernel) ⟨rfl, rfl⟩ ?_
  refine s_putrN 6 dX5_init_69 fl_X5_33 kl_4 (by decide) rfl in1_ rfl ⟨by decide, by decide, (by decide +kernel)⟩ (z := 6) rfl (by decide) ?_
  rw [hk_put]
  refine s_aload_n dX5_init_72 rfl ?_
  refine s_bipush dX5_init_73 (by decide) ?_
  refine r_newari (n' := 12) (a := 192) (N' := 193) (b1 := 2) (s1 := 24) dX5_init_75 aq_int (by decide +kernel) rfl (by decide) (by decide) rfl rfl (by decide +kernel) (by decide +kernel) ⟨rfl, rfl⟩ ?_
  refine s_putrN 16 dX5_init_77 fl_X5_36 kl_4 (by decide) rfl in1_ rfl ⟨by decide, by decide, (by decide +kernel)⟩ (z := 16) rfl (by decide) ?_
  rw [hk_put]
  refine s_aload_n dX5_init_80 rfl ?_
  refine s_bipush dX5_init_81 (by decide) ?_
  refine r_newarl (n' := 12) (a := 193) (N' := 194) (b1 := 1) (s1 := 12) dX5_init_83 aq_long (by decide +kernel) rfl (by decide) (by decide) rfl rfl (by decide +kernel) (by decide +kernel) ⟨rfl, rfl⟩ ?_
  refine s_putrN 17 dX5_init_85 fl_X5_39 kl_4 (by decide) rfl in1_ rfl ⟨by decide, by decide, (by decide +kernel)⟩ (z := 17) rfl (by decide) ?_
  rw [hk_put]
  refine s_aload_n dX5_init_88 rfl ?_
  refine s_bipush dX5_init_89 (by decide) ?_
  refine r_newari (n' := 12) (a := 194) (N' := 195) (b1 := 0) (s1 := 0) dX5_init_91 aq_int (by decide +kernel) rfl (by decide) (by decide) rfl rfl (by decide +kernel) (by decide +kernel) ⟨rfl, rfl⟩ ?_
  refine s_putrN 18 dX5_init_93 fl_X5_43 kl_4 (by decide) rfl in1_ rfl ⟨by decide, by decide, (by decide +kernel)⟩ (z := 18) rfl (by decide) ?_
  rw [hk_put]
  refine s_aload_n dX5_init_96 rfl ?_
  refine s_aload_n dX5_init_97 rfl ?_
  refine s_putrN 14 dX5_init_98 fl_X5_46 kl_4 (by decide) rfl in1_ rfl ⟨by decide, by decide, (by decide +kernel)⟩ (z := 14) rfl (by decide) ?_
  rw [hk_put]
  refine s_aload_n dX5_init_101 rfl ?_
  refine s_aload_n dX5_init_102 rfl ?_
  refine s_putrN 15 dX5_init_103 fl_X5_50 kl_4 (by decide) rfl in1_ rfl ⟨by decide, by decide, (by decide +kernel)⟩ (z := 15) rfl (by decide) ?_
  rw [hk_put]
  rw [hi_close (by decide +kernel) (by decide +kernel)]
  exact s_return dX5_init_106 rfl k
set_option maxRecDepth 100000 in
set_option maxHeartbeats 4000000 in
theorem n_195b {Q : PQ} (k : Q.1 none 197 (hI_ [(195, [(1, 0), (0, 196)]), (0, [(9, 148), (8, 146), (7, 1), (6, 99), (5, 81), (4, 79), (3, 42), (2, 2), (0, 1)])])) : CI_ yJ5_init MJ5_init 1 1 16 [(2, 195), (0, 16)] 196 (hI_ [(195, []), (0, [(9, 148), (8, 146), (7, 1), (6, 99), (5, 81), (4, 79), (3, 42), (2, 2), (0, 1)])]) Q := by
  refine s_enterJ (by decide +kernel) rfl rfl (Nat.le_of_ble_eq_true rfl) (L := [(2, _), (0, _)]) rfl ?_
  refine s_aload_n dJ5_init_d00df_0 rfl ?_
  refine s_objI dJ5_init_d00df_1 ob_J5_3 (by decide) (Nat.le_of_ble_eq_true rfl) ?_
  refine s_getsC dJ5_init_d00df_4 fl_J5_18 ?_
  refine s_if_eq (tgt := 25) dJ5_init_d00df_7 (by decide) ⟨by decide, by decide⟩ (fun e => absurd e (by decide)) (fun _ => ?_)
  refine s_aload_n dJ5_init_d00df_10 rfl ?_
  refine s_iload_n dJ5_init_d00df_11 rfl ?_
  refine r_newarb (n' := 16) (a := 196) (N' := 197) (b1 := 0) (s1 := 0) dJ5_init_d00df_12 aq_byte (by decide +kernel) rfl (by decide) (by decide) rfl rfl (by decide +kernel) (by decide +kernel) ⟨rfl, rfl⟩ ?_
  refine s_putrN (ci := 9) 0 dJ5_init_d00df_14 fl_J5_15 kl_9 (by decide) rfl in1_ rfl ⟨by decide, by decide, (by decide +kernel)⟩ (z := 0) rfl (by decide) ?_
  rw [hk_put]
  refine s_aload_n dJ5_init_d00df_17 rfl ?_
  refine s_iconst dJ5_init_d00df_18 ?_
  refine s_putbN (ci := 9) 1 dJ5_init_d00df_19 fl_J5_22 kl_9 (by decide) rfl in1_ rfl ⟨by decide, by decide, (by decide +kernel)⟩ (z := 1) rfl (Or.inl rfl) ?_
  rw [hk_put]
  refine s_goto (tgt := 38) dJ5_init_d00df_22 (by decide) ?_
  exact s_return dJ5_init_d00df_38 rfl k
set_option maxRecDepth 100000 in
set_option maxHeartbeats 4000000 in
theorem n_195 {Q : PQ} (k : Q.1 none 197 (hI_ [(0, [(9, 148), (8, 146), (7, 1), (6, 99), (5, 81), (4, 79), (3, 42), (2, 2), (0, 1)])])) : CI_ yJ4_init MJ4_init 3 1 16 [(2, 195)] 196 (hI_ [(195, []), (0, [(9, 148), (8, 146), (7, 1), (6, 99), (5, 81), (4, 79), (3, 42), (2, 2), (0, 1)])]) Q := by
  refine s_enterJ (by decide +kernel) rfl rfl (Nat.le_of_ble_eq_true rfl) (L := [(2, _)]) rfl ?_
  refine s_aload_n dJ4_init_da8c8_0 rfl ?_
  refine s_bipush dJ4_init_da8c8_1 (by decide) ?_
  refine r_callI (d' := 1) (bc' := 1) (bs' := 16) (b1 := 0) (s1 := 0) (as := [(0, 16)]) (N' := 197) nh_1G eg_ dJ4_init_da8c8_3 if_J4_1 (by decide) ⟨rfl, rfl⟩ rfl rfl (Nat.le_of_ble_eq_true rfl) (fun Q9 k9 => n_195b k9) ?_
  refine s_return dJ4_init_da8c8_6 rfl ?_
  rw [hi_close (by decide +kernel) (by decide +kernel)]
  exact k
set_option maxRecDepth 100000 in
set_option maxHeartbeats 4000000 in
theorem n_0 {Q : PQ} (k : Q.1 none 197 (hI_ [])) : CI_ yX8_init MX8_init 4 196 3084 [(2, 0)] 1 (hI_ [(0, [])]) Q := by
  refine s_enterJ pn_X8 rfl rfl (Nat.le_of_ble_eq_true rfl) (L := [(2, _)]) rfl ?_
  refine s_aload_n dX8_init_0 rfl ?_
  refine s_objI dX8_init_1 ob_X8_1 (by decide) (Nat.le_of_ble_eq_true rfl) ?_
  refine s_aload_n dX8_init_4 rfl ?_
  refine s_sipush dX8_init_5 (by decide) ?_
  refine r_newarb (n' := 400) (a := 1) (N' := 2) (b1 := 195) (s1 := 2684) dX8_init_8 aq_byte (by decide +kernel) rfl (by decide) (by decide) rfl rfl (by decide +kernel) (by decide +kernel) ⟨rfl, rfl⟩ ?_
  refine s_putrN 0 dX8_init_10 fl_X8_9 kl_6 (by decide) rfl in1_ rfl ⟨by decide, by decide, (by decide +kernel)⟩ (z := 0) rfl (by decide) ?_
  rw [hk_put]
  refine s_aload_n dX8_init_13 rfl ?_
  refine r_newc (ci := 3) (a := 2) (N' := 3) (b1 := 194) (s1 := 2677) dX8_init_14 nc_X8_13 kl_3 nf_3 (by decide +kernel) (by decide) rfl rfl ⟨rfl, rfl⟩ ?_
  refine s_dup dX8_init_17 rfl ?_
  refine s_aload_n dX8_init_18 rfl ?_
  refine s_getr dX8_init_19 fl_X8_9 kl_6 (by decide) rfl ⟨by decide, by decide, (by decide +kernel)⟩ (z := 0) rfl (b := 1) (by decide +kernel) (by decide) ?_
  refine r_callI (d' := 3) (bc' := 39) (bs' := 353) (b1 := 155) (s1 := 2324) (as := [(2, 1)]) (N' := 42) nh_1G eg_ dX8_init_22 if_X8_15 (by decide) ⟨rfl, rfl⟩ rfl rfl (Nat.le_of_ble_eq_true rfl) (fun Q9 k9 => n_2 k9) ?_
  refine s_putrN 2 dX8_init_25 fl_X8_18 kl_6 (by decide) rfl in1_ rfl ⟨by decide, by decide, (by decide +kernel)⟩ (z := 2) rfl (by decide) ?_
  rw [hk_put]
  refine s_aload_n dX8_init_28 rfl ?_
  refine r_newc (ci := 5) (a := 42) (N' := 43) (b1 := 154) (s1 := 2311) dX8_init_29 nc_X8_22 kl_5 nf_5 (by decide +kernel) (by decide) rfl rfl ⟨rfl, rfl⟩ ?_
  refine s_dup dX8_init_32 rfl ?_
  refine r_callIN (d' := 2) (bc' := 36) (bs' := 278) (b1 := 118) (s1 := 2033) (as := []) (N' := 79) nh_1G eg_ dX8_init_33 if_X8_24 (by decide) ⟨rfl, rfl⟩ rfl rfl (Nat.le_of_ble_eq_true rfl) (fun Q9 k9 => n_42 k9) ?_
  refine s_putrN 3 dX8_init_36 fl_X8_25 kl_6 (by decide) rfl in1_ rfl ⟨by decide, by decide, (by decide +kernel)⟩ (z := 3) rfl (by decide) ?_
  rw [hk_put]
  refine s_aload_n dX8_init_39 rfl ?_
  refine r_newc (ci := 1) (a := 79) (N' := 80) (b1 := 117) (s1 := 2032) dX8_init_40 nc_X8_29 kl_1 nf_1 (by decide +kernel) (by decide) rfl rfl ⟨rfl, rfl⟩ ?_
  refine s_dup dX8_init_43 rfl ?_
  refine r_callI (d' := 1) (bc' := 1) (bs' := 61) (b1 := 116) (s1 := 1971) (as := []) (N' := 81) nh_1G eg_ dX8_init_44 if_X8_31 (by decide) ⟨rfl, rfl⟩ rfl rfl (Nat.le_of_ble_eq_true rfl) (fun Q9 k9 => n_79 k9) ?_
  refine s_putrN 4 dX8_init_47 fl_X8_32 kl_6 (by decide) rfl in1_ rfl ⟨by decide, by decide, (by decide +kernel)⟩ (z := 4) rfl (by decide) ?_
  rw [hk_put]
  refine s_aload_n dX8_init_50 rfl ?_
  refine r_newc (ci := 0) (a := 81) (N' := 82) (b1 := 115) (s1 := 1968) dX8_init_51 nc_X8_36 kl_0 nf_0 (by decide +kernel) (by decide) rfl rfl ⟨rfl, rfl⟩ ?_
  refine s_dup dX8_init_54 rfl ?_
  refine r_callIN (d' := 1) (bc' := 17) (bs' := 992) (b1 := 98) (s1 := 976) (as := []) (N' := 99) nh_1G eg_ dX8_init_55 if_X8_38 (by decide) ⟨rfl, rfl⟩ rfl rfl (Nat.le_of_ble_eq_true rfl) (fun Q9 k9 => n_81 k9) ?_
  refine s_putrN 5 dX8_init_58 fl_X8_39 kl_6 (by decide) rfl in1_ rfl ⟨by decide, by decide, (by decide +kernel)⟩ (z := 5) rfl (by decide) ?_
  rw [hk_put]
  refine s_aload_n dX8_init_61 rfl ?_
  refine r_newc (ci := 4) (a := 99) (N' := 100) (b1 := 97) (s1 := 957) dX8_init_62 nc_X8_43 kl_4 nf_4 (by decide +kernel) (by decide) rfl rfl ⟨rfl, rfl⟩ ?_
  refine s_dup dX8_init_65 rfl ?_
  refine s_aload_n dX8_init_66 rfl ?_
  refine s_getr dX8_init_67 fl_X8_25 kl_6 (by decide) rfl ⟨by decide, by decide, (by decide +kernel)⟩ (z := 3) rfl (b := 42) (by decide +kernel) (by decide) ?_
  refine s_aload_n dX8_init_70 rfl ?_
  refine s_getr dX8_init_71 fl_X8_32 kl_6 (by decide) rfl ⟨by decide, by decide, (by decide +kernel)⟩ (z := 4) rfl (b := 79) (by decide +kernel) (by decide) ?_
  refine r_callI (d' := 1) (bc' := 46) (bs' := 428) (b1 := 51) (s1 := 529) (as := [(2, 42), (2, 79)]) (N' := 146) nh_1G eg_ dX8_init_74 if_X8_45 (by decide) ⟨rfl, rfl⟩ rfl rfl (Nat.le_of_ble_eq_true rfl) (fun Q9 k9 => n_99 k9) ?_
  refine s_putrN 6 dX8_init_77 fl_X8_48 kl_6 (by decide) rfl in1_ rfl ⟨by decide, by decide, (by decide +kernel)⟩ (z := 6) rfl (by decide) ?_
  rw [hk_put]
  refine s_aload_n dX8_init_80 rfl ?_
  refine s_iconst dX8_init_81 ?_
  refine s_putzN 7 dX8_init_82 fl_X8_52 kl_6 (by decide) rfl in1_ rfl ⟨by decide, by decide, (by decide +kernel)⟩ (z := 7) rfl (by decide) ?_
  rw [hk_put]
  refine s_aload_n dX8_init_85 rfl ?_
  refine r_newc (ci := 1) (a := 146) (N' := 147) (b1 := 50) (s1 := 528) dX8_init_86 nc_X8_29 kl_1 nf_1 (by decide +kernel) (by decide) rfl rfl ⟨rfl, rfl⟩ ?_
  refine s_dup dX8_init_89 rfl ?_
  refine r_callI (d' := 1) (bc' := 1) (bs' := 61) (b1 := 49) (s1 := 467) (as := []) (N' := 148) nh_1G eg_ dX8_init_90 if_X8_31 (by decide) ⟨rfl, rfl⟩ rfl rfl (Nat.le_of_ble_eq_true rfl) (fun Q9 k9 => n_146 k9) ?_
  refine s_putrN 8 dX8_init_93 fl_X8_56 kl_6 (by decide) rfl in1_ rfl ⟨by decide, by decide, (by decide +kernel)⟩ (z := 8) rfl (by decide) ?_
  rw [hk_put]
  refine s_aload_n dX8_init_96 rfl ?_
  refine r_newc (ci := 4) (a := 148) (N' := 149) (b1 := 48) (s1 := 448) dX8_init_97 nc_X8_43 kl_4 nf_4 (by decide +kernel) (by decide) rfl rfl ⟨rfl, rfl⟩ ?_
  refine s_dup dX8_init_100 rfl ?_
  refine s_aload_n dX8_init_101 rfl ?_
  refine s_getr dX8_init_102 fl_X8_25 kl_6 (by decide) rfl ⟨by decide, by decide, (by decide +kernel)⟩ (z := 3) rfl (b := 42) (by decide +kernel) (by decide) ?_
  refine s_aload_n dX8_init_105 rfl ?_
  refine s_getr dX8_init_106 fl_X8_56 kl_6 (by decide) rfl ⟨by decide, by decide, (by decide +kernel)⟩ (z := 8) rfl (b := 146) (by decide +kernel) (by decide) ?_
  refine r_callI (d' := 1) (bc' := 46) (bs' := 428) (b1 := 2) (s1 := 20) (as := [(2, 42), (2, 146)]) (N' := 195) nh_1G eg_ dX8_init_109 if_X8_45 (by decide) ⟨rfl, rfl⟩ rfl rfl (Nat.le_of_ble_eq_true rfl) (fun Q9 k9 => n_148 k9) ?_
  refine s_putrN 9 dX8_init_112 fl_X8_59 kl_6 (by decide) rfl in1_ rfl ⟨by decide, by decide, (by decide +kernel)⟩ (z := 9) rfl (by decide) ?_
  rw [hk_put]
  refine s_aload_n dX8_init_115 rfl ?_
  refine r_newc (ci := 9) (a := 195) (N' := 196) (b1 := 1) (s1 := 16) dX8_init_116 nc_X8_62 kl_9 nf_9 (by decide +kernel) (by decide) rfl rfl ⟨rfl, rfl⟩ ?_
  refine s_dup dX8_init_119 rfl ?_
  refine r_callI (d' := 3) (bc' := 1) (bs' := 16) (b1 := 0) (s1 := 0) (as := []) (N' := 197) nh_1G eg_ dX8_init_120 if_X8_64 (by decide) ⟨rfl, rfl⟩ rfl rfl (Nat.le_of_ble_eq_true rfl) (fun Q9 k9 => n_195 k9) ?_
  refine s_putrN 10 dX8_init_123 fl_X8_65 kl_6 (by decide) rfl in1_ rfl ⟨by decide, by decide, (by decide +kernel)⟩ (z := 10) rfl (by decide) ?_
  rw [hk_put]
  rw [hi_close (by decide +kernel) (by decide +kernel)]
  exact s_return dX8_init_126 rfl k
