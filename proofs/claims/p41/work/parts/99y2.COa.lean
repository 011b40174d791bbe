/-! two of the counts; the house's numbers, as the law asks for them -/
section COA
variable {d bc bs : Nat} {Q : PQ} {h z : PH}
set_option maxRecDepth 100000 in
set_option maxHeartbeats 4000000 in
theorem c_X8_cnt1 (C : CR_ h z) (k : Q.1 (some (0, z 0 1)) nN h) : Cl_ yX8_count MX8_count d bc bs [(2, 0), (0, 1)] nN h Q := by
  refine s_enter pn_X8 rfl (Nat.le_of_ble_eq_true rfl) (L := [(2, _), (0, _)]) rfl ?_
  have hG := cr_g C
  obtain ⟨w, hw, W, hwf, P, CN⟩ := cr_w C
  refine s_iload_n dX8_count_0 rfl ?_
  refine s_tabIn (tgt := 87) dX8_count_1 ⟨by decide, by decide⟩ (by decide) (by decide) rfl (by decide) ?_
  refine s_aload_n dX8_count_87 rfl ?_
  refine s_getr dX8_count_88 fl_X8_25 kl_6 (by decide) rfl io_0 (z := 3) rfl hw (W).1 ?_
  refine s_getr dX8_count_91 fl_X8_105 kl_5 (by decide) rfl W (z := 3) rfl (rf_5_3 hG.1 W) (rk_5_3 W).1 ?_
  refine s_geti dX8_count_94 fl_X8_339 kl_2 (by decide) rfl (rk_5_3 W) (z := 1) rfl ?_
  rw [P.1.2.1]
  exact s_ireturn dX8_count_97 rfl k
set_option maxRecDepth 100000 in
set_option maxHeartbeats 4000000 in
theorem c_X8_cnt4 (hd : 1 ≤ d) (C : CR_ h z) (k : Q.1 (some (0, z 1 57)) nN h) : Cl_ yX8_count MX8_count d bc bs [(2, 0), (0, 4)] nN h Q := by
  refine s_enter pn_X8 rfl (Nat.le_of_ble_eq_true rfl) (L := [(2, _), (0, _)]) rfl ?_
  have hG := cr_g C
  obtain ⟨w, hw, W, hwf, P, CN⟩ := cr_w C
  refine s_iload_n dX8_count_0 rfl ?_
  refine s_tabIn (tgt := 115) dX8_count_1 ⟨by decide, by decide⟩ (by decide) (by decide) rfl (by decide) ?_
  refine s_aload_n dX8_count_115 rfl ?_
  refine s_getr dX8_count_116 fl_X8_32 kl_6 (by decide) rfl io_0 (z := 4) rfl (rf_6_4 hG.1 io_0) (rk_6_4 io_0).1 ?_
  refine s_iconst dX8_count_119 ?_
  refine s_callV (d' := d - 1) (bc' := 0) (bs' := 0) (as := [_]) dX8_count_120 vf_X8_204 (dd_ (by omega) (by decide)) ⟨Nat.zero_le _, Nat.zero_le _⟩ rfl rfl (Nat.le_of_ble_eq_true rfl) kl_1 rfl (rk_6_4 io_0) ?_
  refine c_X2_told (rk_6_4 io_0) hG (by omega) (by omega) ?_
  rw [P.2.1 _ (by omega) (by omega)]
  exact s_ireturn dX8_count_123 rfl k
end COA
theorem ze_0 {z : PH} : zestate z 0 = zes z := by
  unfold zestate
  exact if_pos rfl
theorem ze_1 {z : PH} : zestate z 1 = zav z := by
  unfold zestate
  rw [if_neg (by decide)]
  exact if_pos rfl
theorem ze_2 {z : PH} : zestate z 2 = max 0 (z 1 57 - zes z) := by
  unfold zestate
  rw [if_neg (by decide), if_neg (by decide)]
  exact if_pos rfl
theorem ze_3 {z : PH} : zestate z 3 = zrs z := by
  unfold zestate
  rw [if_neg (by decide), if_neg (by decide), if_neg (by decide)]
  exact if_pos rfl
theorem ze_5 {z : PH} : zestate z 5 = zbo z := by
  unfold zestate
  rw [if_neg (by decide), if_neg (by decide), if_neg (by decide), if_neg (by decide), if_neg (by decide)]
  exact if_pos rfl
theorem ze_6 {z : PH} : zestate z 6 = zav z - zrs z := by
  unfold zestate
  rw [if_neg (by decide), if_neg (by decide), if_neg (by decide), if_neg (by decide), if_neg (by decide), if_neg (by decide)]
  exact if_pos rfl
theorem ze_7 {z : PH} : zestate z 7 = zct z := by
  unfold zestate
  rw [if_neg (by decide), if_neg (by decide), if_neg (by decide), if_neg (by decide), if_neg (by decide), if_neg (by decide)]
  exact if_neg (by decide)
/-- bounds -/
theorem zcl_bd {z : PH} (I : ZI z) {c : Int} (c0 : 0 ≤ c) (c5 : c ≤ 5) : (0 ≤ zclassed z c 0 ∧ zclassed z c 0 ≤ 12000000) ∧ 0 ≤ zclassed z c 1 ∧ zclassed z c 1 ≤ 12000000 := by
  have hN := I.2.2.2.1
  have a0 : 0 ≤ zclassed z c 0 := by
    rw [zcl0 c5]
    exact sumI_nonneg _ _ (fun i i0 i1 => zd5_nn I i c i0 (by omega))
  have a1 : zclassed z c 0 ≤ 12000000 := by
    rw [zcl0 c5]
    have h := sumI_le (f := fun g => zd5 z g c) (b := 1000000) (z 0 2).toNat 0 (fun i i0 i1 => (zd5_bd I i0 (by omega)).2)
    have e : cs_ (zd5 z) (z 0 2) c = sumI (fun g => zd5 z g c) 0 (z 0 2).toNat := rfl
    rw [e]
    omega
  have b1 := ((zcl_cut I).2 c c0 c5).1
  refine ⟨⟨a0, a1⟩, ?_, by omega⟩
  unfold zclassed
  rw [if_neg (by omega), if_pos rfl]
  exact sumI_nonneg _ _ (fun i i0 i1 => (zgt_bd I i0 (by omega) c0).1)
theorem zle_bd {z : PH} (I : ZI z) {c : Int} (c0 : 0 ≤ c) (c4 : c ≤ 4) : -1 ≤ zleast z c ∧ zleast z c ≤ 180000 := by
  have b := zes_bd I
  have n : 0 ≤ zdut z c := by
    rw [zdut_cs c0 c4]
    have h1 : 0 ≤ sumI (fun k => cs_ (zd5 z) (z 0 2) k) 0 c.toNat := sumI_nonneg _ _ (fun k k0 k1 => sumI_nonneg _ _ (fun i i0 i1 => zd5_nn I i k i0 (by omega)))
    have h2 : 0 ≤ cs_ (zd5 z) (z 0 2) c := sumI_nonneg _ _ (fun i i0 i1 => zd5_nn I i c i0 (by omega))
    omega
  unfold zleast
  split <;> omega
/-- kept, and taken back -/
theorem za_1 {z : PH} {F : Int → Int} : zact z F 1 = F := zput_1 _ _
theorem za_lo {z : PH} {F : Int → Int} {x : Int} (h : ¬ x = 1) (hx : x < 53) : zact z F x = z x := (zput_ne h).trans (zkeep_lo x hx)
theorem za_53 {z : PH} {F : Int → Int} (h1 : z 53 0 < 16) : zact z F 53 0 = z 53 0 + 1 := by
  unfold zact
  rw [zput_ne (by decide)]
  unfold zkeep
  rw [if_pos rfl]
  show min 16 (z 53 0 + 1) = _
  omega
theorem za_60 {z : PH} {F : Int → Int} {j : Int} (j0 : 0 ≤ j) (j1 : j ≤ 15) (h1 : z 53 0 < 16) : zact z F (60 + j) = if j = z 53 0 then z 1 else z (60 + j) := by
  unfold zact
  rw [zput_ne (by omega)]
  unfold zkeep
  rw [if_neg (by omega), if_pos ⟨by omega, by omega⟩, if_neg (by omega)]
  by_cases c : j = z 53 0
  · rw [if_pos (by omega), if_pos c]
  · rw [if_neg (by omega), if_neg c]
theorem zu_1 {z : PH} : zundo z 1 = z (60 + (z 53 0 - 1)) := if_pos rfl
theorem zu_53 {z : PH} : zundo z 53 0 = z 53 0 - 1 := by
  unfold zundo
  rw [if_neg (by decide), if_pos rfl]
theorem zu_ne {z : PH} {x : Int} (h1 : ¬ x = 1) (h2 : ¬ x = 53) : zundo z x = z x := by
  unfold zundo
  rw [if_neg h1, if_neg h2]
/-- two numbers told and taken back: the house is as it was -/
theorem zuu {z : PH} {F F2 : Int → Int} (h0 : z 53 0 = 0) : zact (zact z F) F2 53 0 = 2 ∧ zundo (zact (zact z F) F2) 53 0 = 1 ∧ zundo (zundo (zact (zact z F) F2)) 53 0 = 0 ∧ ∀ x : Int, x < 53 → zundo (zundo (zact (zact z F) F2)) x = z x := by
  have a1 : zact z F 53 0 = 1 := by rw [za_53 (by omega), h0]; rfl
  have a2 : zact (zact z F) F2 53 0 = 2 := by rw [za_53 (by omega), a1]; rfl
  have u1 : zundo (zact (zact z F) F2) 53 0 = 1 := by rw [zu_53, a2]; rfl
  have u2 : zundo (zundo (zact (zact z F) F2)) 53 0 = 0 := by rw [zu_53, u1]; rfl
  refine ⟨a2, u1, u2, fun x hx => ?_⟩
  by_cases c : x = 1
  · subst c
    rw [zu_1, u1]
    show zundo (zact (zact z F) F2) 60 = z 1
    rw [zu_ne (by decide) (by decide)]
    have e := za_60 (z := zact z F) (F := F2) (j := 0) (by decide) (by decide) (by omega)
    rw [if_neg (by omega), Int.add_zero] at e
    rw [e]
    have e2 := za_60 (z := z) (F := F) (j := 0) (by decide) (by decide) (by omega)
    rw [if_pos (by omega), Int.add_zero] at e2
    exact e2
  · rw [zu_ne c (by omega), zu_ne c (by omega), za_lo c hx, za_lo c hx]
theorem zcl_same {z z' : PH} (e : ∀ x : Int, x < 53 → z' x = z x) : ZE z z' := ⟨e 0 (by decide), e 1 (by decide), e 2 (by decide), e 3 (by decide), e 5 (by decide), e 6 (by decide), e 7 (by decide), e 8 (by decide), e 9 (by decide)⟩
