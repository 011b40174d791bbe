/-! the text that is written: numbers -/
theorem nd_bd (v : Int) : 1 ≤ nd_ v ∧ nd_ v ≤ 10 := by
  unfold nd_
  repeat' split
  all_goals omega
theorem dt_bd (v j : Int) : 0 ≤ dt_ v j ∧ dt_ v j ≤ 9 := by
  unfold dt_
  omega
/-- v without its last j digits -/
def sv_ (v : Int) (j : Nat) : Int := v / 10 ^ j
theorem sv_0 (v : Int) : sv_ v 0 = v := by
  unfold sv_
  simp
theorem sv_s {v : Int} (j : Nat) : sv_ v (j + 1) = sv_ v j / 10 := by
  unfold sv_
  rw [Int.pow_succ, Int.ediv_ediv_of_nonneg (Int.pow_nonneg (by decide))]
theorem sv_nn {v : Int} (h : 0 ≤ v) (j : Nat) : 0 ≤ sv_ v j := Int.ediv_nonneg h (Int.pow_nonneg (by decide))
theorem dt_sv {v j : Int} : dt_ v j = sv_ v j.toNat % 10 := rfl
theorem sv_c (v : Int) : sv_ v 1 = v / 10 ∧ sv_ v 2 = v / 100 ∧ sv_ v 3 = v / 1000 ∧ sv_ v 4 = v / 10000 ∧ sv_ v 5 = v / 100000 ∧ sv_ v 6 = v / 1000000 ∧ sv_ v 7 = v / 10000000 ∧ sv_ v 8 = v / 100000000 ∧ sv_ v 9 = v / 1000000000 := by
  have a := sv_0 v
  have a1 := sv_s (v := v) 0
  have a2 := sv_s (v := v) 1
  have a3 := sv_s (v := v) 2
  have a4 := sv_s (v := v) 3
  have a5 := sv_s (v := v) 4
  have a6 := sv_s (v := v) 5
  have a7 := sv_s (v := v) 6
  have a8 := sv_s (v := v) 7
  have a9 := sv_s (v := v) 8
  simp only [Nat.zero_add, Nat.reduceAdd] at a1 a2 a3 a4 a5 a6 a7 a8 a9
  omega
theorem sv_j9 {v : Int} (v0 : 0 ≤ v) (v1 : v < 2147483648) {j : Nat} (e : 1 ≤ sv_ v j) : j ≤ 9 := by
  obtain ⟨a1, a2, a3, a4, a5, a6, a7, a8, a9⟩ := sv_c v
  refine Nat.le_of_not_lt fun q => ?_
  have z : sv_ v 10 = 0 := by
    have := sv_s (v := v) 9
    simp only [Nat.reduceAdd] at this
    omega
  have up : ∀ m : Nat, sv_ v (10 + m) = 0 := by
    intro m
    induction m with
    | zero => exact z
    | succ m ih =>
      rw [show 10 + (m + 1) = 10 + m + 1 by omega, sv_s, ih]
      rfl
  have := up (j - 10)
  rw [show 10 + (j - 10) = j by omega] at this
  omega
/-- where no digit but the last is left, that many there are -/
theorem nd_at {v : Int} (v0 : 0 ≤ v) (v1 : v < 2147483648) {j : Nat} (h1 : j = 0 ∨ 1 ≤ sv_ v j) (h9 : sv_ v j ≤ 9) : nd_ v = j + 1 := by
  obtain ⟨a1, a2, a3, a4, a5, a6, a7, a8, a9⟩ := sv_c v
  have a0 := sv_0 v
  have hj : j ≤ 9 := by
    rcases h1 with e | e
    · omega
    · exact sv_j9 v0 v1 e
  unfold nd_
  rcases (by omega : j = 0 ∨ j = 1 ∨ j = 2 ∨ j = 3 ∨ j = 4 ∨ j = 5 ∨ j = 6 ∨ j = 7 ∨ j = 8 ∨ j = 9) with e | e | e | e | e | e | e | e | e | e
  all_goals
    subst e
    repeat' split
    all_goals omega
theorem nd_gt {v : Int} (v0 : 0 ≤ v) (v1 : v < 2147483648) {j : Nat} (h1 : 1 ≤ sv_ v j) : (j : Int) + 1 ≤ nd_ v := by
  obtain ⟨a1, a2, a3, a4, a5, a6, a7, a8, a9⟩ := sv_c v
  have a0 := sv_0 v
  have hj := sv_j9 v0 v1 h1
  unfold nd_
  rcases (by omega : j = 0 ∨ j = 1 ∨ j = 2 ∨ j = 3 ∨ j = 4 ∨ j = 5 ∨ j = 6 ∨ j = 7 ∨ j = 8 ∨ j = 9) with e | e | e | e | e | e | e | e | e | e
  all_goals
    subst e
    repeat' split
    all_goals omega
section SBG
variable {d bc bs : Nat} {Q : PQ} {h h0 : PH} {u : UT}
set_option maxRecDepth 100000 in
set_option maxHeartbeats 4000000 in
theorem c_J6_stringSize {v : Int} (v0 : 0 ≤ v) (v1 : v < 2147483648) (k : Q.1 (some (0, nd_ v)) nM h) : Cl_ yJ6_stringSize_0f7a4 MJ6_stringSize_0f7a4 d bc bs [(0, v)] nM h Q := by
  refine s_enter pn_J6 rfl (Nat.le_of_ble_eq_true rfl) (L := [(0, _), (9, 0), (9, 0), (9, 0)]) rfl ?_
  refine s_iconst dJ6_stringSize_0f7a4_0 ?_
  refine s_istore_n dJ6_stringSize_0f7a4_1 (by decide) rfl (L' := [_, _, _, _]) rfl ?_
  refine s_iload_n dJ6_stringSize_0f7a4_2 rfl ?_
  refine s_if_lt (tgt := 11) dJ6_stringSize_0f7a4_3 (by decide) (by first | exact hG.2 _ _ | exact b01_in _ | assumption | exact ⟨by omega, by omega⟩) (fun c1 => ?_) (fun c1 => ?_)
  · exact absurd c1 (by omega)
  · --go
    refine s_iconst dJ6_stringSize_0f7a4_6 ?_
    refine s_istore_n dJ6_stringSize_0f7a4_7 (by decide) rfl (L' := [_, _, _, _]) rfl ?_
    refine s_iload_n dJ6_stringSize_0f7a4_8 rfl ?_
    refine s_ineg dJ6_stringSize_0f7a4_9 ?_
    refine s_istore_n dJ6_stringSize_0f7a4_10 (by decide) rfl (L' := [_, _, _, _]) rfl ?_
    refine s_bipush dJ6_stringSize_0f7a4_11 (by decide) ?_
    refine s_istore_n dJ6_stringSize_0f7a4_13 (by decide) rfl (L' := [_, _, _, _]) rfl ?_
    refine s_iconst dJ6_stringSize_0f7a4_14 ?_
    refine s_istore_n dJ6_stringSize_0f7a4_15 (by decide) rfl (L' := [_, _, _, _]) rfl ?_
    refine s_iload_n dJ6_stringSize_0f7a4_16 rfl ?_
    refine s_bipush dJ6_stringSize_0f7a4_17 (by decide) ?_
    refine s_icmp_ge (tgt := 42) dJ6_stringSize_0f7a4_19 (by decide) (by first | exact hG.2 _ _ | exact b01_in _ | assumption | exact ⟨by omega, by omega⟩) (by first | exact hG.2 _ _ | exact b01_in _ | assumption | exact ⟨by omega, by omega⟩) (fun c2 => ?_) (fun c2 => ?_)
    · exact absurd c2 (by omega)
    · refine s_iload_n dJ6_stringSize_0f7a4_22 rfl ?_
      refine s_iload_n dJ6_stringSize_0f7a4_23 rfl ?_
      refine s_icmp_le (tgt := 31) dJ6_stringSize_0f7a4_24 (by decide) (by first | exact hG.2 _ _ | exact b01_in _ | assumption | exact ⟨by omega, by omega⟩) (by first | exact hG.2 _ _ | exact b01_in _ | assumption | exact ⟨by omega, by omega⟩) (fun c3 => ?_) (fun c3 => ?_)
      · refine s_bipush dJ6_stringSize_0f7a4_31 (by decide) ?_
        refine s_iload_n dJ6_stringSize_0f7a4_33 rfl ?_
        refine s_imul dJ6_stringSize_0f7a4_34 ?_
        refine s_istore_n dJ6_stringSize_0f7a4_35 (by decide) rfl (L' := [_, _, _, _]) rfl ?_
        refine s_iinc dJ6_stringSize_0f7a4_36 rfl (by decide) rfl (L' := [_, _, _, _]) rfl ?_
        refine s_goto (tgt := 16) dJ6_stringSize_0f7a4_39 (by decide) ?_
        refine s_iload_n dJ6_stringSize_0f7a4_16 rfl ?_
        refine s_bipush dJ6_stringSize_0f7a4_17 (by decide) ?_
        refine s_icmp_ge (tgt := 42) dJ6_stringSize_0f7a4_19 (by decide) (by first | exact hG.2 _ _ | exact b01_in _ | assumption | exact ⟨by omega, by omega⟩) (by first | exact hG.2 _ _ | exact b01_in _ | assumption | exact ⟨by omega, by omega⟩) (fun c4 => ?_) (fun c4 => ?_)
        · exact absurd c4 (by omega)
        · refine s_iload_n dJ6_stringSize_0f7a4_22 rfl ?_
          refine s_iload_n dJ6_stringSize_0f7a4_23 rfl ?_
          refine s_icmp_le (tgt := 31) dJ6_stringSize_0f7a4_24 (by decide) (by first | exact hG.2 _ _ | exact b01_in _ | assumption | exact ⟨by omega, by omega⟩) (by first | exact hG.2 _ _ | exact b01_in _ | assumption | exact ⟨by omega, by omega⟩) (fun c5 => ?_) (fun c5 => ?_)
          · refine s_bipush dJ6_stringSize_0f7a4_31 (by decide) ?_
            refine s_iload_n dJ6_stringSize_0f7a4_33 rfl ?_
            refine s_imul dJ6_stringSize_0f7a4_34 ?_
            refine s_istore_n dJ6_stringSize_0f7a4_35 (by decide) rfl (L' := [_, _, _, _]) rfl ?_
            refine s_iinc dJ6_stringSize_0f7a4_36 rfl (by decide) rfl (L' := [_, _, _, _]) rfl ?_
            refine s_goto (tgt := 16) dJ6_stringSize_0f7a4_39 (by decide) ?_
            refine s_iload_n dJ6_stringSize_0f7a4_16 rfl ?_
            refine s_bipush dJ6_stringSize_0f7a4_17 (by decide) ?_
            refine s_icmp_ge (tgt := 42) dJ6_stringSize_0f7a4_19 (by decide) (by first | exact hG.2 _ _ | exact b01_in _ | assumption | exact ⟨by omega, by omega⟩) (by first | exact hG.2 _ _ | exact b01_in _ | assumption | exact ⟨by omega, by omega⟩) (fun c6 => ?_) (fun c6 => ?_)
            · exact absurd c6 (by omega)
            · refine s_iload_n dJ6_stringSize_0f7a4_22 rfl ?_
              refine s_iload_n dJ6_stringSize_0f7a4_23 rfl ?_
              refine s_icmp_le (tgt := 31) dJ6_stringSize_0f7a4_24 (by decide) (by first | exact hG.2 _ _ | exact b01_in _ | assumption | exact ⟨by omega, by omega⟩) (by first | exact hG.2 _ _ | exact b01_in _ | assumption | exact ⟨by omega, by omega⟩) (fun c7 => ?_) (fun c7 => ?_)
              · refine s_bipush dJ6_stringSize_0f7a4_31 (by decide) ?_
                refine s_iload_n dJ6_stringSize_0f7a4_33 rfl ?_
                refine s_imul dJ6_stringSize_0f7a4_34 ?_
                refine s_istore_n dJ6_stringSize_0f7a4_35 (by decide) rfl (L' := [_, _, _, _]) rfl ?_
                refine s_iinc dJ6_stringSize_0f7a4_36 rfl (by decide) rfl (L' := [_, _, _, _]) rfl ?_
                refine s_goto (tgt := 16) dJ6_stringSize_0f7a4_39 (by decide) ?_
                refine s_iload_n dJ6_stringSize_0f7a4_16 rfl ?_
                refine s_bipush dJ6_stringSize_0f7a4_17 (by decide) ?_
                refine s_icmp_ge (tgt := 42) dJ6_stringSize_0f7a4_19 (by decide) (by first | exact hG.2 _ _ | exact b01_in _ | assumption | exact ⟨by omega, by omega⟩) (by first | exact hG.2 _ _ | exact b01_in _ | assumption | exact ⟨by omega, by omega⟩) (fun c8 => ?_) (fun c8 => ?_)
                · exact absurd c8 (by omega)
                · refine s_iload_n dJ6_stringSize_0f7a4_22 rfl ?_
                  refine s_iload_n dJ6_stringSize_0f7a4_23 rfl ?_
                  refine s_icmp_le (tgt := 31) dJ6_stringSize_0f7a4_24 (by decide) (by first | exact hG.2 _ _ | exact b01_in _ | assumption | exact ⟨by omega, by omega⟩) (by first | exact hG.2 _ _ | exact b01_in _ | assumption | exact ⟨by omega, by omega⟩) (fun c9 => ?_) (fun c9 => ?_)
                  · refine s_bipush dJ6_stringSize_0f7a4_31 (by decide) ?_
                    refine s_iload_n dJ6_stringSize_0f7a4_33 rfl ?_
                    refine s_imul dJ6_stringSize_0f7a4_34 ?_
                    refine s_istore_n dJ6_stringSize_0f7a4_35 (by decide) rfl (L' := [_, _, _, _]) rfl ?_
                    refine s_iinc dJ6_stringSize_0f7a4_36 rfl (by decide) rfl (L' := [_, _, _, _]) rfl ?_
                    refine s_goto (tgt := 16) dJ6_stringSize_0f7a4_39 (by decide) ?_
                    refine s_iload_n dJ6_stringSize_0f7a4_16 rfl ?_
                    refine s_bipush dJ6_stringSize_0f7a4_17 (by decide) ?_
                    refine s_icmp_ge (tgt := 42) dJ6_stringSize_0f7a4_19 (by decide) (by first | exact hG.2 _ _ | exact b01_in _ | assumption | exact ⟨by omega, by omega⟩) (by first | exact hG.2 _ _ | exact b01_in _ | assumption | exact ⟨by omega, by omega⟩) (fun c10 => ?_) (fun c10 => ?_)
                    · exact absurd c10 (by omega)
                    · refine s_iload_n dJ6_stringSize_0f7a4_22 rfl ?_
                      refine s_iload_n dJ6_stringSize_0f7a4_23 rfl ?_
                      refine s_icmp_le (tgt := 31) dJ6_stringSize_0f7a4_24 (by decide) (by first | exact hG.2 _ _ | exact b01_in _ | assumption | exact ⟨by omega, by omega⟩) (by first | exact hG.2 _ _ | exact b01_in _ | assumption | exact ⟨by omega, by omega⟩) (fun c11 => ?_) (fun c11 => ?_)
                      · refine s_bipush dJ6_stringSize_0f7a4_31 (by decide) ?_
                        refine s_iload_n dJ6_stringSize_0f7a4_33 rfl ?_
                        refine s_imul dJ6_stringSize_0f7a4_34 ?_
                        refine s_istore_n dJ6_stringSize_0f7a4_35 (by decide) rfl (L' := [_, _, _, _]) rfl ?_
                        refine s_iinc dJ6_stringSize_0f7a4_36 rfl (by decide) rfl (L' := [_, _, _, _]) rfl ?_
                        refine s_goto (tgt := 16) dJ6_stringSize_0f7a4_39 (by decide) ?_
                        refine s_iload_n dJ6_stringSize_0f7a4_16 rfl ?_
                        refine s_bipush dJ6_stringSize_0f7a4_17 (by decide) ?_
                        refine s_icmp_ge (tgt := 42) dJ6_stringSize_0f7a4_19 (by decide) (by first | exact hG.2 _ _ | exact b01_in _ | assumption | exact ⟨by omega, by omega⟩) (by first | exact hG.2 _ _ | exact b01_in _ | assumption | exact ⟨by omega, by omega⟩) (fun c12 => ?_) (fun c12 => ?_)
                        · exact absurd c12 (by omega)
                        · refine s_iload_n dJ6_stringSize_0f7a4_22 rfl ?_
                          refine s_iload_n dJ6_stringSize_0f7a4_23 rfl ?_
                          refine s_icmp_le (tgt := 31) dJ6_stringSize_0f7a4_24 (by decide) (by first | exact hG.2 _ _ | exact b01_in _ | assumption | exact ⟨by omega, by omega⟩) (by first | exact hG.2 _ _ | exact b01_in _ | assumption | exact ⟨by omega, by omega⟩) (fun c13 => ?_) (fun c13 => ?_)
                          · refine s_bipush dJ6_stringSize_0f7a4_31 (by decide) ?_
                            refine s_iload_n dJ6_stringSize_0f7a4_33 rfl ?_
                            refine s_imul dJ6_stringSize_0f7a4_34 ?_
                            refine s_istore_n dJ6_stringSize_0f7a4_35 (by decide) rfl (L' := [_, _, _, _]) rfl ?_
                            refine s_iinc dJ6_stringSize_0f7a4_36 rfl (by decide) rfl (L' := [_, _, _, _]) rfl ?_
                            refine s_goto (tgt := 16) dJ6_stringSize_0f7a4_39 (by decide) ?_
                            refine s_iload_n dJ6_stringSize_0f7a4_16 rfl ?_
                            refine s_bipush dJ6_stringSize_0f7a4_17 (by decide) ?_
                            refine s_icmp_ge (tgt := 42) dJ6_stringSize_0f7a4_19 (by decide) (by first | exact hG.2 _ _ | exact b01_in _ | assumption | exact ⟨by omega, by omega⟩) (by first | exact hG.2 _ _ | exact b01_in _ | assumption | exact ⟨by omega, by omega⟩) (fun c14 => ?_) (fun c14 => ?_)
                            · exact absurd c14 (by omega)
                            · refine s_iload_n dJ6_stringSize_0f7a4_22 rfl ?_
                              refine s_iload_n dJ6_stringSize_0f7a4_23 rfl ?_
                              refine s_icmp_le (tgt := 31) dJ6_stringSize_0f7a4_24 (by decide) (by first | exact hG.2 _ _ | exact b01_in _ | assumption | exact ⟨by omega, by omega⟩) (by first | exact hG.2 _ _ | exact b01_in _ | assumption | exact ⟨by omega, by omega⟩) (fun c15 => ?_) (fun c15 => ?_)
                              · refine s_bipush dJ6_stringSize_0f7a4_31 (by decide) ?_
                                refine s_iload_n dJ6_stringSize_0f7a4_33 rfl ?_
                                refine s_imul dJ6_stringSize_0f7a4_34 ?_
                                refine s_istore_n dJ6_stringSize_0f7a4_35 (by decide) rfl (L' := [_, _, _, _]) rfl ?_
                                refine s_iinc dJ6_stringSize_0f7a4_36 rfl (by decide) rfl (L' := [_, _, _, _]) rfl ?_
                                refine s_goto (tgt := 16) dJ6_stringSize_0f7a4_39 (by decide) ?_
                                refine s_iload_n dJ6_stringSize_0f7a4_16 rfl ?_
                                refine s_bipush dJ6_stringSize_0f7a4_17 (by decide) ?_
                                refine s_icmp_ge (tgt := 42) dJ6_stringSize_0f7a4_19 (by decide) (by first | exact hG.2 _ _ | exact b01_in _ | assumption | exact ⟨by omega, by omega⟩) (by first | exact hG.2 _ _ | exact b01_in _ | assumption | exact ⟨by omega, by omega⟩) (fun c16 => ?_) (fun c16 => ?_)
                                · exact absurd c16 (by omega)
                                · refine s_iload_n dJ6_stringSize_0f7a4_22 rfl ?_
                                  refine s_iload_n dJ6_stringSize_0f7a4_23 rfl ?_
                                  refine s_icmp_le (tgt := 31) dJ6_stringSize_0f7a4_24 (by decide) (by first | exact hG.2 _ _ | exact b01_in _ | assumption | exact ⟨by omega, by omega⟩) (by first | exact hG.2 _ _ | exact b01_in _ | assumption | exact ⟨by omega, by omega⟩) (fun c17 => ?_) (fun c17 => ?_)
                                  · refine s_bipush dJ6_stringSize_0f7a4_31 (by decide) ?_
                                    refine s_iload_n dJ6_stringSize_0f7a4_33 rfl ?_
                                    refine s_imul dJ6_stringSize_0f7a4_34 ?_
                                    refine s_istore_n dJ6_stringSize_0f7a4_35 (by decide) rfl (L' := [_, _, _, _]) rfl ?_
                                    refine s_iinc dJ6_stringSize_0f7a4_36 rfl (by decide) rfl (L' := [_, _, _, _]) rfl ?_
                                    refine s_goto (tgt := 16) dJ6_stringSize_0f7a4_39 (by decide) ?_
                                    refine s_iload_n dJ6_stringSize_0f7a4_16 rfl ?_
                                    refine s_bipush dJ6_stringSize_0f7a4_17 (by decide) ?_
                                    refine s_icmp_ge (tgt := 42) dJ6_stringSize_0f7a4_19 (by decide) (by first | exact hG.2 _ _ | exact b01_in _ | assumption | exact ⟨by omega, by omega⟩) (by first | exact hG.2 _ _ | exact b01_in _ | assumption | exact ⟨by omega, by omega⟩) (fun c18 => ?_) (fun c18 => ?_)
                                    · exact absurd c18 (by omega)
                                    · refine s_iload_n dJ6_stringSize_0f7a4_22 rfl ?_
                                      refine s_iload_n dJ6_stringSize_0f7a4_23 rfl ?_
                                      refine s_icmp_le (tgt := 31) dJ6_stringSize_0f7a4_24 (by decide) (by first | exact hG.2 _ _ | exact b01_in _ | assumption | exact ⟨by omega, by omega⟩) (by first | exact hG.2 _ _ | exact b01_in _ | assumption | exact ⟨by omega, by omega⟩) (fun c19 => ?_) (fun c19 => ?_)
                                      · refine s_bipush dJ6_stringSize_0f7a4_31 (by decide) ?_
                                        refine s_iload_n dJ6_stringSize_0f7a4_33 rfl ?_
                                        refine s_imul dJ6_stringSize_0f7a4_34 ?_
                                        refine s_istore_n dJ6_stringSize_0f7a4_35 (by decide) rfl (L' := [_, _, _, _]) rfl ?_
                                        refine s_iinc dJ6_stringSize_0f7a4_36 rfl (by decide) rfl (L' := [_, _, _, _]) rfl ?_
                                        refine s_goto (tgt := 16) dJ6_stringSize_0f7a4_39 (by decide) ?_
                                        refine s_iload_n dJ6_stringSize_0f7a4_16 rfl ?_
                                        refine s_bipush dJ6_stringSize_0f7a4_17 (by decide) ?_
                                        refine s_icmp_ge (tgt := 42) dJ6_stringSize_0f7a4_19 (by decide) ⟨by omega, by omega⟩ ⟨by omega, by omega⟩ (fun cz => ?_) (fun cz => absurd cz (by omega))
                                        refine s_bipush dJ6_stringSize_0f7a4_42 (by decide) ?_
                                        refine s_iload_n dJ6_stringSize_0f7a4_44 rfl ?_
                                        refine s_iadd dJ6_stringSize_0f7a4_45 ?_
                                        have e : nd_ v = 10 + 0 := by
                                          unfold nd_
                                          repeat' split
                                          all_goals omega
                                        rw [e] at k
                                        exact s_ireturn dJ6_stringSize_0f7a4_46 rfl k
                                      · refine s_iload_n dJ6_stringSize_0f7a4_27 rfl ?_
                                        refine s_iload_n dJ6_stringSize_0f7a4_28 rfl ?_
                                        refine s_iadd dJ6_stringSize_0f7a4_29 ?_
                                        have e : nd_ v = 1 + 1 + 1 + 1 + 1 + 1 + 1 + 1 + 1 + 0 := by
                                          unfold nd_
                                          repeat' split
                                          all_goals omega
                                        rw [e] at k
                                        exact s_ireturn dJ6_stringSize_0f7a4_30 rfl k
                                  · refine s_iload_n dJ6_stringSize_0f7a4_27 rfl ?_
                                    refine s_iload_n dJ6_stringSize_0f7a4_28 rfl ?_
                                    refine s_iadd dJ6_stringSize_0f7a4_29 ?_
                                    have e : nd_ v = 1 + 1 + 1 + 1 + 1 + 1 + 1 + 1 + 0 := by
                                      unfold nd_
                                      repeat' split
                                      all_goals omega
                                    rw [e] at k
                                    exact s_ireturn dJ6_stringSize_0f7a4_30 rfl k
                              · refine s_iload_n dJ6_stringSize_0f7a4_27 rfl ?_
                                refine s_iload_n dJ6_stringSize_0f7a4_28 rfl ?_
                                refine s_iadd dJ6_stringSize_0f7a4_29 ?_
                                have e : nd_ v = 1 + 1 + 1 + 1 + 1 + 1 + 1 + 0 := by
                                  unfold nd_
                                  repeat' split
                                  all_goals omega
                                rw [e] at k
                                exact s_ireturn dJ6_stringSize_0f7a4_30 rfl k
                          · refine s_iload_n dJ6_stringSize_0f7a4_27 rfl ?_
                            refine s_iload_n dJ6_stringSize_0f7a4_28 rfl ?_
                            refine s_iadd dJ6_stringSize_0f7a4_29 ?_
                            have e : nd_ v = 1 + 1 + 1 + 1 + 1 + 1 + 0 := by
                              unfold nd_
                              repeat' split
                              all_goals omega
                            rw [e] at k
                            exact s_ireturn dJ6_stringSize_0f7a4_30 rfl k
                      · refine s_iload_n dJ6_stringSize_0f7a4_27 rfl ?_
                        refine s_iload_n dJ6_stringSize_0f7a4_28 rfl ?_
                        refine s_iadd dJ6_stringSize_0f7a4_29 ?_
                        have e : nd_ v = 1 + 1 + 1 + 1 + 1 + 0 := by
                          unfold nd_
                          repeat' split
                          all_goals omega
                        rw [e] at k
                        exact s_ireturn dJ6_stringSize_0f7a4_30 rfl k
                  · refine s_iload_n dJ6_stringSize_0f7a4_27 rfl ?_
                    refine s_iload_n dJ6_stringSize_0f7a4_28 rfl ?_
                    refine s_iadd dJ6_stringSize_0f7a4_29 ?_
                    have e : nd_ v = 1 + 1 + 1 + 1 + 0 := by
                      unfold nd_
                      repeat' split
                      all_goals omega
                    rw [e] at k
                    exact s_ireturn dJ6_stringSize_0f7a4_30 rfl k
              · refine s_iload_n dJ6_stringSize_0f7a4_27 rfl ?_
                refine s_iload_n dJ6_stringSize_0f7a4_28 rfl ?_
                refine s_iadd dJ6_stringSize_0f7a4_29 ?_
                have e : nd_ v = 1 + 1 + 1 + 0 := by
                  unfold nd_
                  repeat' split
                  all_goals omega
                rw [e] at k
                exact s_ireturn dJ6_stringSize_0f7a4_30 rfl k
          · refine s_iload_n dJ6_stringSize_0f7a4_27 rfl ?_
            refine s_iload_n dJ6_stringSize_0f7a4_28 rfl ?_
            refine s_iadd dJ6_stringSize_0f7a4_29 ?_
            have e : nd_ v = 1 + 1 + 0 := by
              unfold nd_
              repeat' split
              all_goals omega
            rw [e] at k
            exact s_ireturn dJ6_stringSize_0f7a4_30 rfl k
      · refine s_iload_n dJ6_stringSize_0f7a4_27 rfl ?_
        refine s_iload_n dJ6_stringSize_0f7a4_28 rfl ?_
        refine s_iadd dJ6_stringSize_0f7a4_29 ?_
        have e : nd_ v = 1 + 0 := by
          unfold nd_
          repeat' split
          all_goals omega
        rw [e] at k
        exact s_ireturn dJ6_stringSize_0f7a4_30 rfl k
/-- digits of v stand from p on up to e -/
def wd_ (h : PH) (v e p : Int) : PH := fun x y => if x = 198 ∧ 10 + p ≤ y ∧ y < 10 + e then 48 + dt_ v (e - 1 - (y - 10)) else h x y
theorem wd_0 {v e : Int} : wd_ h v e e = h := funext fun x => funext fun y => if_neg (by omega)
theorem wd_s {v e p : Int} (a : p ≤ e) : hs_ (wd_ h v e p) 198 (10 + (p - 1)) (48 + dt_ v (e - p)) = wd_ h v e (p - 1) := by
  funext x y
  by_cases c : x = 198 ∧ y = 10 + (p - 1)
  · rw [c.1, c.2, hs_eq]
    unfold wd_
    rw [if_pos (by omega)]
    congr 2
    omega
  · rw [hs_ne _ c]
    unfold wd_
    by_cases c2 : x = 198 ∧ 10 + p ≤ y ∧ y < 10 + e
    · rw [if_pos c2, if_pos (by omega)]
    · rw [if_neg c2, if_neg (by omega)]
theorem wd_lo {v e p k : Int} (c : k < 10) (p0 : 0 ≤ p) : wd_ h v e p 198 k = h 198 k := if_neg (by omega)
theorem kd1_ (A : Nat → Prop) (U : State) (H : Heap) (ad : AD) (K : Kx_ A U H ad.2) : va_T .byte (ad.2 1303) 100 (fun i => .int (Int32.ofInt (dgo_ i))) A U H := K.2.2.2.2.2.2.2.1
theorem kd2_ (A : Nat → Prop) (U : State) (H : Heap) (ad : AD) (K : Kx_ A U H ad.2) : va_T .byte (ad.2 1304) 100 (fun i => .int (Int32.ofInt (dgt_ i))) A U H := K.2.2.2.2.2.2.2.2.1
theorem tdn_ {w : Int} (a : 0 ≤ w) : (-w).tdiv 100 = -(w / 100) := by
  rw [Int.neg_tdiv, Int.tdiv_eq_ediv_of_nonneg a]
set_option maxRecDepth 100000 in
set_option maxHeartbeats 4000000 in
theorem lp_J6_getChars {v e : Int} (v0 : 0 ≤ v) (v1 : v < 2147483648) (e0 : nd_ v ≤ e) (ec : e ≤ h 198 (-1)) (hc : h 198 (-1) ≤ 962) (k : Q.1 (some (0, e - nd_ v)) nM (wd_ h v e (e - nd_ v))) : ∀ (m : Nat) (w p : Int), (p ≤ e) → (w < 100 ^ (m + 1)) → (w = sv_ v (e - p).toNat) → (p = e ∨ 1 ≤ w) → S_ MJ6_getChars_ba4f3 d bc bs Q 22 [(0, -w), (0, e), (5, 0), (9, 0), (9, 0), (0, p), (0, 0)] [] nM (wd_ h v e p) := by
  have nb := nd_bd v
  intro m
  induction m with
  | zero =>
    intro w p pe wm hw w1
    have w0 : 0 ≤ w := by rw [hw]; exact sv_nn v0 _
    have wv : w ≤ v := by rw [hw]; exact Int.ediv_le_self _ v0
    have n1 : (e - p) + 1 ≤ nd_ v := by
      rcases w1 with q | q
      · omega
      · have := nd_gt v0 v1 (j := (e - p).toNat) (by rw [← hw]; exact q)
        omega
    have n2 : 10 ≤ w → (e - p) + 2 ≤ nd_ v := fun q => by
      have := nd_gt v0 v1 (j := (e - p).toNat + 1) (by rw [sv_s, ← hw]; omega)
      omega
    have n3 : 100 ≤ w → (e - p) + 3 ≤ nd_ v := fun q => by
      have := nd_gt v0 v1 (j := (e - p).toNat + 1 + 1) (by rw [sv_s, sv_s, ← hw]; omega)
      omega
    have wm : w < 100 := wm
    refine s_iload_n dJ6_getChars_ba4f3_22 rfl ?_
    refine s_bipush dJ6_getChars_ba4f3_23 (by decide) ?_
    refine s_icmp_gt (tgt := 72) dJ6_getChars_ba4f3_25 (by decide) (by first | exact hG.2 _ _ | exact b01_in _ | assumption | exact ⟨by omega, by omega⟩) (by first | exact hG.2 _ _ | exact b01_in _ | assumption | exact ⟨by omega, by omega⟩) (fun c1 => ?_) (fun c1 => ?_)
    · refine s_aload5 dJ6_getChars_ba4f3_72 rfl ?_
      refine s_iinc dJ6_getChars_ba4f3_73 rfl (by decide) rfl (L' := [_, _, _, _, _, _, _]) rfl ?_
      refine s_iload dJ6_getChars_ba4f3_76 rfl ?_
      refine s_getsr (ref := "") (z := 1303) dJ6_getChars_ba4f3_78 (by decide +kernel) fl_J6_83 ?_
      refine s_iload_n dJ6_getChars_ba4f3_81 rfl ?_
      refine s_ineg dJ6_getChars_ba4f3_82 ?_
      rw [Int.neg_neg]
      refine s_kbaload dJ6_getChars_ba4f3_83 (f := dgo_) kd1_ (by omega) (by omega) (by omega) (v := 48 + w % 10) ?_ ?_
      · unfold dgo_
        omega
      rw [show 48 + w % 10 = 48 + dt_ v (e - p) by rw [dt_sv, ← hw]]
      have b1 := dt_bd v (e - p)
      refine s_bastore5 dJ6_getChars_ba4f3_84 (by omega) (by rw [wd_lo (by omega) (by omega)]; omega) (by rw [wd_lo (by omega) (by omega)]; omega) (by omega) (by omega) ?_
      rw [show p + -1 = p - 1 by omega, wd_s (by omega)]
      refine s_iload_n dJ6_getChars_ba4f3_85 rfl ?_
      refine s_bipush dJ6_getChars_ba4f3_86 (by decide) ?_
      refine s_icmp_ge (tgt := 104) dJ6_getChars_ba4f3_88 (by decide) (by first | exact hG.2 _ _ | exact b01_in _ | assumption | exact ⟨by omega, by omega⟩) (by first | exact hG.2 _ _ | exact b01_in _ | assumption | exact ⟨by omega, by omega⟩) (fun c2 => ?_) (fun c2 => ?_)
      · refine s_iload dJ6_getChars_ba4f3_104 rfl ?_
        refine s_if_eq (tgt := 118) dJ6_getChars_ba4f3_106 (by decide) (by first | exact hG.2 _ _ | exact b01_in _ | assumption | exact ⟨by omega, by omega⟩) (fun c3 => ?_) (fun c3 => ?_)
        · refine s_iload dJ6_getChars_ba4f3_118 rfl ?_
          have en := nd_at v0 v1 (j := (e - p).toNat) (by omega) (by rw [← hw]; omega)
          rw [show p - 1 = e - nd_ v by omega]
          exact s_ireturn dJ6_getChars_ba4f3_120 rfl k
        · exact absurd rfl c3
      · refine s_aload5 dJ6_getChars_ba4f3_91 rfl ?_
        refine s_iinc dJ6_getChars_ba4f3_92 rfl (by decide) rfl (L' := [_, _, _, _, _, _, _]) rfl ?_
        refine s_iload dJ6_getChars_ba4f3_95 rfl ?_
        refine s_getsr (ref := "") (z := 1304) dJ6_getChars_ba4f3_97 (by decide +kernel) fl_J6_87 ?_
        refine s_iload_n dJ6_getChars_ba4f3_100 rfl ?_
        refine s_ineg dJ6_getChars_ba4f3_101 ?_
        rw [Int.neg_neg]
        refine s_kbaload dJ6_getChars_ba4f3_102 (f := dgt_) kd2_ (by omega) (by omega) (by omega) (v := 48 + w / 10) ?_ ?_
        · unfold dgt_
          omega
        have h2 : w / 10 = sv_ v ((e - p).toNat + 1) := by rw [sv_s, ← hw]
        rw [show 48 + w / 10 = 48 + dt_ v (e - (p - 1)) by rw [dt_sv, show (e - (p - 1)).toNat = (e - p).toNat + 1 by omega, ← h2]; omega]
        have b2 := dt_bd v (e - (p - 1))
        refine s_bastore5 dJ6_getChars_ba4f3_103 (by omega) (by rw [wd_lo (by omega) (by omega)]; omega) (by rw [wd_lo (by omega) (by omega)]; omega) (by omega) (by omega) ?_
        rw [show p - 1 + -1 = p - 1 - 1 by omega, wd_s (by omega)]
        refine s_iload dJ6_getChars_ba4f3_104 rfl ?_
        refine s_if_eq (tgt := 118) dJ6_getChars_ba4f3_106 (by decide) (by first | exact hG.2 _ _ | exact b01_in _ | assumption | exact ⟨by omega, by omega⟩) (fun c4 => ?_) (fun c4 => ?_)
        · refine s_iload dJ6_getChars_ba4f3_118 rfl ?_
          have en := nd_at v0 v1 (j := (e - p).toNat + 1) (Or.inr (by rw [← h2]; omega)) (by rw [← h2]; omega)
          rw [show p - 1 - 1 = e - nd_ v by omega]
          exact s_ireturn dJ6_getChars_ba4f3_120 rfl k
        · exact absurd rfl c4
    · exact absurd c1 (by omega)
  | succ m ih =>
    intro w p pe wm hw w1
    have w0 : 0 ≤ w := by rw [hw]; exact sv_nn v0 _
    have wv : w ≤ v := by rw [hw]; exact Int.ediv_le_self _ v0
    have n1 : (e - p) + 1 ≤ nd_ v := by
      rcases w1 with q | q
      · omega
      · have := nd_gt v0 v1 (j := (e - p).toNat) (by rw [← hw]; exact q)
        omega
    have n2 : 10 ≤ w → (e - p) + 2 ≤ nd_ v := fun q => by
      have := nd_gt v0 v1 (j := (e - p).toNat + 1) (by rw [sv_s, ← hw]; omega)
      omega
    have n3 : 100 ≤ w → (e - p) + 3 ≤ nd_ v := fun q => by
      have := nd_gt v0 v1 (j := (e - p).toNat + 1 + 1) (by rw [sv_s, sv_s, ← hw]; omega)
      omega
    refine s_iload_n dJ6_getChars_ba4f3_22 rfl ?_
    refine s_bipush dJ6_getChars_ba4f3_23 (by decide) ?_
    refine s_icmp_gt (tgt := 72) dJ6_getChars_ba4f3_25 (by decide) (by first | exact hG.2 _ _ | exact b01_in _ | assumption | exact ⟨by omega, by omega⟩) (by first | exact hG.2 _ _ | exact b01_in _ | assumption | exact ⟨by omega, by omega⟩) (fun c1 => ?_) (fun c1 => ?_)
    · refine s_aload5 dJ6_getChars_ba4f3_72 rfl ?_
      refine s_iinc dJ6_getChars_ba4f3_73 rfl (by decide) rfl (L' := [_, _, _, _, _, _, _]) rfl ?_
      refine s_iload dJ6_getChars_ba4f3_76 rfl ?_
      refine s_getsr (ref := "") (z := 1303) dJ6_getChars_ba4f3_78 (by decide +kernel) fl_J6_83 ?_
      refine s_iload_n dJ6_getChars_ba4f3_81 rfl ?_
      refine s_ineg dJ6_getChars_ba4f3_82 ?_
      rw [Int.neg_neg]
      refine s_kbaload dJ6_getChars_ba4f3_83 (f := dgo_) kd1_ (by omega) (by omega) (by omega) (v := 48 + w % 10) ?_ ?_
      · unfold dgo_
        omega
      rw [show 48 + w % 10 = 48 + dt_ v (e - p) by rw [dt_sv, ← hw]]
      have b1 := dt_bd v (e - p)
      refine s_bastore5 dJ6_getChars_ba4f3_84 (by omega) (by rw [wd_lo (by omega) (by omega)]; omega) (by rw [wd_lo (by omega) (by omega)]; omega) (by omega) (by omega) ?_
      rw [show p + -1 = p - 1 by omega, wd_s (by omega)]
      refine s_iload_n dJ6_getChars_ba4f3_85 rfl ?_
      refine s_bipush dJ6_getChars_ba4f3_86 (by decide) ?_
      refine s_icmp_ge (tgt := 104) dJ6_getChars_ba4f3_88 (by decide) (by first | exact hG.2 _ _ | exact b01_in _ | assumption | exact ⟨by omega, by omega⟩) (by first | exact hG.2 _ _ | exact b01_in _ | assumption | exact ⟨by omega, by omega⟩) (fun c2 => ?_) (fun c2 => ?_)
      · refine s_iload dJ6_getChars_ba4f3_104 rfl ?_
        refine s_if_eq (tgt := 118) dJ6_getChars_ba4f3_106 (by decide) (by first | exact hG.2 _ _ | exact b01_in _ | assumption | exact ⟨by omega, by omega⟩) (fun c3 => ?_) (fun c3 => ?_)
        · refine s_iload dJ6_getChars_ba4f3_118 rfl ?_
          have en := nd_at v0 v1 (j := (e - p).toNat) (by omega) (by rw [← hw]; omega)
          rw [show p - 1 = e - nd_ v by omega]
          exact s_ireturn dJ6_getChars_ba4f3_120 rfl k
        · exact absurd rfl c3
      · refine s_aload5 dJ6_getChars_ba4f3_91 rfl ?_
        refine s_iinc dJ6_getChars_ba4f3_92 rfl (by decide) rfl (L' := [_, _, _, _, _, _, _]) rfl ?_
        refine s_iload dJ6_getChars_ba4f3_95 rfl ?_
        refine s_getsr (ref := "") (z := 1304) dJ6_getChars_ba4f3_97 (by decide +kernel) fl_J6_87 ?_
        refine s_iload_n dJ6_getChars_ba4f3_100 rfl ?_
        refine s_ineg dJ6_getChars_ba4f3_101 ?_
        rw [Int.neg_neg]
        refine s_kbaload dJ6_getChars_ba4f3_102 (f := dgt_) kd2_ (by omega) (by omega) (by omega) (v := 48 + w / 10) ?_ ?_
        · unfold dgt_
          omega
        have h2 : w / 10 = sv_ v ((e - p).toNat + 1) := by rw [sv_s, ← hw]
        rw [show 48 + w / 10 = 48 + dt_ v (e - (p - 1)) by rw [dt_sv, show (e - (p - 1)).toNat = (e - p).toNat + 1 by omega, ← h2]; omega]
        have b2 := dt_bd v (e - (p - 1))
        refine s_bastore5 dJ6_getChars_ba4f3_103 (by omega) (by rw [wd_lo (by omega) (by omega)]; omega) (by rw [wd_lo (by omega) (by omega)]; omega) (by omega) (by omega) ?_
        rw [show p - 1 + -1 = p - 1 - 1 by omega, wd_s (by omega)]
        refine s_iload dJ6_getChars_ba4f3_104 rfl ?_
        refine s_if_eq (tgt := 118) dJ6_getChars_ba4f3_106 (by decide) (by first | exact hG.2 _ _ | exact b01_in _ | assumption | exact ⟨by omega, by omega⟩) (fun c4 => ?_) (fun c4 => ?_)
        · refine s_iload dJ6_getChars_ba4f3_118 rfl ?_
          have en := nd_at v0 v1 (j := (e - p).toNat + 1) (Or.inr (by rw [← h2]; omega)) (by rw [← h2]; omega)
          rw [show p - 1 - 1 = e - nd_ v by omega]
          exact s_ireturn dJ6_getChars_ba4f3_120 rfl k
        · exact absurd rfl c4
    · refine s_iload_n dJ6_getChars_ba4f3_28 rfl ?_
      refine s_bipush dJ6_getChars_ba4f3_29 (by decide) ?_
      refine s_idiv dJ6_getChars_ba4f3_31 (by first | exact hG.2 _ _ | exact b01_in _ | assumption | exact ⟨by omega, by omega⟩) (by first | exact hG.2 _ _ | exact b01_in _ | assumption | exact ⟨by omega, by omega⟩) (by omega) (by omega) ?_
      rw [tdn_ (by omega)]
      refine s_istore_n dJ6_getChars_ba4f3_32 (by decide) rfl (L' := [_, _, _, _, _, _, _]) rfl ?_
      refine s_iload_n dJ6_getChars_ba4f3_33 rfl ?_
      refine s_bipush dJ6_getChars_ba4f3_34 (by decide) ?_
      refine s_imul dJ6_getChars_ba4f3_36 ?_
      refine s_iload_n dJ6_getChars_ba4f3_37 rfl ?_
      refine s_isub dJ6_getChars_ba4f3_38 ?_
      rw [show -(w / 100) * 100 - -w = w % 100 by omega]
      refine s_istore dJ6_getChars_ba4f3_39 (by decide) rfl (L' := [_, _, _, _, _, _, _]) rfl ?_
      refine s_iload_n dJ6_getChars_ba4f3_41 rfl ?_
      refine s_istore_n dJ6_getChars_ba4f3_42 (by decide) rfl (L' := [_, _, _, _, _, _, _]) rfl ?_
      refine s_aload5 dJ6_getChars_ba4f3_43 rfl ?_
      refine s_iinc dJ6_getChars_ba4f3_44 rfl (by decide) rfl (L' := [_, _, _, _, _, _, _]) rfl ?_
      refine s_iload dJ6_getChars_ba4f3_47 rfl ?_
      refine s_getsr (ref := "") (z := 1303) dJ6_getChars_ba4f3_49 (by decide +kernel) fl_J6_83 ?_
      refine s_iload dJ6_getChars_ba4f3_52 rfl ?_
      refine s_kbaload dJ6_getChars_ba4f3_54 (f := dgo_) kd1_ (by omega) (by omega) (by omega) (v := 48 + w % 100 % 10) ?_ ?_
      · unfold dgo_
        omega
      rw [show 48 + w % 100 % 10 = 48 + dt_ v (e - p) by rw [dt_sv, ← hw]; omega]
      have b1 := dt_bd v (e - p)
      refine s_bastore5 dJ6_getChars_ba4f3_55 (by omega) (by rw [wd_lo (by omega) (by omega)]; omega) (by rw [wd_lo (by omega) (by omega)]; omega) (by omega) (by omega) ?_
      rw [show p + -1 = p - 1 by omega, wd_s (by omega)]
      refine s_aload5 dJ6_getChars_ba4f3_56 rfl ?_
      refine s_iinc dJ6_getChars_ba4f3_57 rfl (by decide) rfl (L' := [_, _, _, _, _, _, _]) rfl ?_
      refine s_iload dJ6_getChars_ba4f3_60 rfl ?_
      refine s_getsr (ref := "") (z := 1304) dJ6_getChars_ba4f3_62 (by decide +kernel) fl_J6_87 ?_
      refine s_iload dJ6_getChars_ba4f3_65 rfl ?_
      refine s_kbaload dJ6_getChars_ba4f3_67 (f := dgt_) kd2_ (by omega) (by omega) (by omega) (v := 48 + w % 100 / 10) ?_ ?_
      · unfold dgt_
        omega
      rw [show 48 + w % 100 / 10 = 48 + dt_ v (e - (p - 1)) by rw [dt_sv, show (e - (p - 1)).toNat = (e - p).toNat + 1 by omega, sv_s, ← hw]; omega]
      have b2 := dt_bd v (e - (p - 1))
      refine s_bastore5 dJ6_getChars_ba4f3_68 (by omega) (by rw [wd_lo (by omega) (by omega)]; omega) (by rw [wd_lo (by omega) (by omega)]; omega) (by omega) (by omega) ?_
      rw [show p - 1 + -1 = p - 1 - 1 by omega, wd_s (by omega)]
      refine s_goto (tgt := 22) dJ6_getChars_ba4f3_69 (by decide) ?_
      have q1 : (e - (p - 1 - 1)).toNat = (e - p).toNat + 1 + 1 := by omega
      have q2 : w / 100 = sv_ v (e - (p - 1 - 1)).toNat := by rw [q1, sv_s, sv_s, ← hw]; omega
      have q3 : w / 100 < 100 ^ (m + 1) := by rw [Int.pow_succ] at wm; omega
      refine s_fg (L' := [(0, -(w / 100)), (0, e), (5, 0), (9, 0), (9, 0), (0, p - 1 - 1), (0, 0)]) ⟨Or.inr rfl, Or.inr rfl, Or.inr rfl, Or.inl rfl, Or.inl rfl, Or.inr rfl, Or.inr rfl, trivial⟩ ?_
      exact ih (w / 100) (p - 1 - 1) (by omega) q3 q2 (by omega)
set_option maxRecDepth 100000 in
set_option maxHeartbeats 4000000 in
theorem c_J6_getChars {v e : Int} (v0 : 0 ≤ v) (v1 : v < 2147483648) (e0 : nd_ v ≤ e) (ec : e ≤ h 198 (-1)) (hc : h 198 (-1) ≤ 962) (k : Q.1 (some (0, e - nd_ v)) nM (wd_ h v e (e - nd_ v))) : Cl_ yJ6_getChars_ba4f3 MJ6_getChars_ba4f3 d bc bs [(0, v), (0, e), (5, 0)] nM h Q := by
  refine s_enter pn_J6 rfl (Nat.le_of_ble_eq_true rfl) (L := [(0, _), (0, _), (5, _), (9, 0), (9, 0), (9, 0), (9, 0)]) rfl ?_
  have nb := nd_bd v
  refine s_iload_n dJ6_getChars_ba4f3_0 rfl ?_
  refine s_istore dJ6_getChars_ba4f3_1 (by decide) rfl (L' := [_, _, _, _, _, _, _]) rfl ?_
  refine s_iload_n dJ6_getChars_ba4f3_3 rfl ?_
  refine s_if_ge (tgt := 11) dJ6_getChars_ba4f3_4 (by decide) (by first | exact hG.2 _ _ | exact b01_in _ | assumption | exact ⟨by omega, by omega⟩) (fun c1 => ?_) (fun c1 => ?_)
  · refine s_iconst dJ6_getChars_ba4f3_11 ?_
    refine s_istore dJ6_getChars_ba4f3_12 (by decide) rfl (L' := [_, _, _, _, _, _, _]) rfl ?_
    refine s_iload dJ6_getChars_ba4f3_14 rfl ?_
    refine s_if_ne (tgt := 22) dJ6_getChars_ba4f3_16 (by decide) (by first | exact hG.2 _ _ | exact b01_in _ | assumption | exact ⟨by omega, by omega⟩) (fun c2 => ?_) (fun c2 => ?_)
    · exact absurd rfl c2
    · refine s_iload_n dJ6_getChars_ba4f3_19 rfl ?_
      refine s_ineg dJ6_getChars_ba4f3_20 ?_
      refine s_istore_n dJ6_getChars_ba4f3_21 (by decide) rfl (L' := [_, _, _, _, _, _, _]) rfl ?_
      rw [← wd_0 (h := h) (v := v) (e := e)]
      exact lp_J6_getChars v0 v1 e0 ec hc k 4 v e (Int.le_refl _) (by omega) (by rw [show (e - e).toNat = 0 by omega, sv_0]) (Or.inl rfl)
  · exact absurd c1 (by omega)
theorem tw_n {v : Int} (T : TW_ h u) (v0 : 0 ≤ v) (hl : u.1 + nd_ v ≤ 480) : TW_ (hs_ (wd_ (eh_ h (u.1 + nd_ v)) v (u.1 + nd_ v) u.1) 198 0 (u.1 + nd_ v)) (tn_ u v) ∧ FB h (hs_ (wd_ (eh_ h (u.1 + nd_ v)) v (u.1 + nd_ v) u.1) 198 0 (u.1 + nd_ v)) ∧ hs_ (wd_ (eh_ h (u.1 + nd_ v)) v (u.1 + nd_ v) u.1) 198 0 (u.1 + nd_ v) 198 (-1) = eh_ h (u.1 + nd_ v) 198 (-1) := by
  obtain ⟨hG, B, m, en, el⟩ := T
  have m0 := B.2.1
  have nb := nd_bd v
  obtain ⟨B2, q1, q2⟩ := eh_b (q := u.1 + nd_ v) B hl (by omega)
  have wB : FB (eh_ h (u.1 + nd_ v)) (wd_ (eh_ h (u.1 + nd_ v)) v (u.1 + nd_ v) u.1) := fun x hx => funext fun y => if_neg (fun z => hx z.1)
  have wo : ∀ y : Int, ¬ (10 + u.1 ≤ y ∧ y < 10 + (u.1 + nd_ v)) → wd_ (eh_ h (u.1 + nd_ v)) v (u.1 + nd_ v) u.1 198 y = eh_ h (u.1 + nd_ v) 198 y := fun y hy => if_neg (fun z => hy z.2)
  have wi : ∀ k : Int, u.1 ≤ k → k < u.1 + nd_ v → wd_ (eh_ h (u.1 + nd_ v)) v (u.1 + nd_ v) u.1 198 (10 + k) = 48 + dt_ v (nd_ v - 1 - (k - u.1)) := fun k a b => by
    unfold wd_
    rw [if_pos ⟨rfl, by omega, by omega⟩]
    congr 2
    omega
  have cap : hs_ (wd_ (eh_ h (u.1 + nd_ v)) v (u.1 + nd_ v) u.1) 198 0 (u.1 + nd_ v) 198 (-1) = eh_ h (u.1 + nd_ v) 198 (-1) := by rw [hs_ne _ (by omega), wo _ (by omega)]
  have gc : G (wd_ (eh_ h (u.1 + nd_ v)) v (u.1 + nd_ v) u.1) := by
    refine g_B (eh_g B hG) wB (fun y => ?_)
    by_cases c : 10 + u.1 ≤ y ∧ y < 10 + (u.1 + nd_ v)
    · have e := wi (y - 10) (by omega) (by omega)
      rw [show 10 + (y - 10) = y by omega] at e
      have b := dt_bd v (nd_ v - 1 - (y - 10 - u.1))
      rw [e]
      exact ⟨by omega, by omega⟩
    · rw [wo y c]
      exact (eh_g B hG).2 _ _
  refine ⟨⟨g_hs gc ⟨by omega, by omega⟩, ⟨by rw [cap]; exact B2.1, ?_, fun k k0 k1 => ?_⟩, ?_, ?_, fun k k0 k1 => ?_⟩, (eh_B.tr wB).tr hs_B, cap⟩
  · rw [cap, hs_eq]
    omega
  · rw [cap] at k1
    rw [hs_ne _ (by omega)]
    by_cases c : u.1 ≤ k ∧ k < u.1 + nd_ v
    · have b := dt_bd v (nd_ v - 1 - (k - u.1))
      rw [wi k c.1 c.2]
      omega
    · rw [wo _ (by omega)]
      exact B2.2.2 k k0 k1
  · rw [hs_ne _ (by omega), wo _ (by omega), eh_n B (by omega) (by omega)]
    exact m
  · rw [hs_eq]
    rfl
  · show _ = if u.1 ≤ k ∧ k < u.1 + nd_ v then 48 + dt_ v (nd_ v - 1 - (k - u.1)) else u.2 k
    have k2 : k < u.1 + nd_ v := k1
    rw [hs_ne _ (by omega)]
    by_cases c : u.1 ≤ k ∧ k < u.1 + nd_ v
    · rw [if_pos c, wi k c.1 c.2]
    · rw [if_neg c, wo _ (by omega), eh_l k0 (by omega)]
      exact el k k0 (by omega)
set_option maxRecDepth 100000 in
set_option maxHeartbeats 4000000 in
theorem c_J5_apn {v : Int} (hd : 4 ≤ d) (T : TW_ h u) (v0 : 0 ≤ v) (v1 : v < 2147483648) (hl : u.1 + nd_ v ≤ 480) (hbc : eb_ h (u.1 + nd_ v) ≤ bc) (hbs : es_ h (u.1 + nd_ v) ≤ bs) (k : ∀ h1 : PH, TW_ h1 (tn_ u v) → FB h h1 → h1 198 (-1) = eh_ h (u.1 + nd_ v) 198 (-1) → Q.1 (some (2, 198)) nM h1) : Cl_ yJ5_append_c97b9 MJ5_append_c97b9 d bc bs [(2, 198), (0, v)] nM h Q := by
  refine s_enter pn_J5 rfl (Nat.le_of_ble_eq_true rfl) (L := [(2, _), (0, _), (9, 0), (9, 0)]) rfl ?_
  have n0 := T.2.1.2.1
  have c9 := T.2.1.1
  have en := T.2.2.2.1
  have nb := nd_bd v
  refine s_aload_n dJ5_append_c97b9_0 rfl ?_
  refine s_getn dJ5_append_c97b9_1 fl_J5_79 en ?_
  refine s_istore_n dJ5_append_c97b9_4 (by decide) rfl (L' := [_, _, _, _]) rfl ?_
  refine s_iload_n dJ5_append_c97b9_5 rfl ?_
  refine s_iload_n dJ5_append_c97b9_6 rfl ?_
  refine e_callS (d' := d - 1) (bc' := 0) (bs' := 0) (as := [_]) nh_0 dJ5_append_c97b9_7 sf_J5_245 (dd_ (by omega) (by decide)) ⟨Nat.zero_le _, Nat.zero_le _⟩ rfl rfl (Nat.le_of_ble_eq_true rfl) ?_
  refine c_J6_stringSize v0 v1 ?_
  refine s_iadd dJ5_append_c97b9_10 ?_
  refine s_istore_n dJ5_append_c97b9_11 (by decide) rfl (L' := [_, _, _, _]) rfl ?_
  refine s_aload_n dJ5_append_c97b9_12 rfl ?_
  refine s_iload_n dJ5_append_c97b9_13 rfl ?_
  refine e_callB (d' := d - 1) (bc' := eb_ h (u.1 + nd_ v)) (bs' := es_ h (u.1 + nd_ v)) (as := [_]) nh_0 dJ5_append_c97b9_14 bf_J5_100 (dd_ (by omega) (by decide)) ⟨hbc, hbs⟩ rfl rfl (Nat.le_of_ble_eq_true rfl) ?_
  refine c_J5_ensure (by omega) T.2.1 T.1 (by omega) (by omega) (by omega) (Nat.le_refl _) (Nat.le_refl _) (fun hG1 => ?_)
  refine s_aload_n dJ5_append_c97b9_17 rfl ?_
  refine e_callB (d' := d - 1) (bc' := 0) (bs' := 0) (as := []) nh_0 dJ5_append_c97b9_18 bf_J5_83 (dd_ (by omega) (by decide)) ⟨Nat.zero_le _, Nat.zero_le _⟩ rfl rfl (Nat.le_of_ble_eq_true rfl) ?_
  refine c_J5_isLatin1_aae02 ?_
  refine s_if_eq (tgt := 37) dJ5_append_c97b9_21 (by decide) (by first | exact hG1.2 _ _ | exact hG.2 _ _ | exact b01_in _ | assumption | exact ⟨by omega, by omega⟩) (fun c1 => ?_) (fun c1 => ?_)
  · exact absurd c1 (by decide)
  · refine s_iload_n dJ5_append_c97b9_24 rfl ?_
    refine s_iload_n dJ5_append_c97b9_25 rfl ?_
    refine s_aload_n dJ5_append_c97b9_26 rfl ?_
    refine s_getv dJ5_append_c97b9_27 fl_J5_15 ?_
    have B2 := (eh_b (q := u.1 + nd_ v) T.2.1 hl (by omega))
    have tw := tw_n T v0 hl
    refine e_callS (d' := d - 1) (bc' := 0) (bs' := 0) (as := [_, _, _]) nh_0 dJ5_append_c97b9_30 sf_J5_248 (dd_ (by omega) (by decide)) ⟨Nat.zero_le _, Nat.zero_le _⟩ rfl rfl (Nat.le_of_ble_eq_true rfl) ?_
    refine c_J6_getChars v0 v1 (by omega) B2.2.1 B2.1.1.2 ?_
    rw [show u.1 + nd_ v - nd_ v = u.1 by omega]
    refine s_pop dJ5_append_c97b9_33 rfl ?_
    refine s_goto (tgt := 48) dJ5_append_c97b9_34 (by decide) ?_
    refine s_aload_n dJ5_append_c97b9_48 rfl ?_
    refine s_iload_n dJ5_append_c97b9_49 rfl ?_
    refine s_putn dJ5_append_c97b9_50 fl_J5_79 ?_
    refine s_aload_n dJ5_append_c97b9_53 rfl ?_
    exact s_areturn dJ5_append_c97b9_54 rfl (Or.inl ⟨_, rfl⟩) (k _ tw.1 tw.2.1 tw.2.2)
set_option maxRecDepth 100000 in
set_option maxHeartbeats 4000000 in
theorem c_J4_apn {v : Int} (hd : 5 ≤ d) (T : TW_ h u) (v0 : 0 ≤ v) (v1 : v < 2147483648) (hl : u.1 + nd_ v ≤ 480) (hbc : eb_ h (u.1 + nd_ v) ≤ bc) (hbs : es_ h (u.1 + nd_ v) ≤ bs) (k : ∀ h1 : PH, TW_ h1 (tn_ u v) → FB h h1 → h1 198 (-1) = eh_ h (u.1 + nd_ v) 198 (-1) → Q.1 (some (2, 198)) nM h1) : Cl_ yJ4_append_bf812 MJ4_append_bf812 d bc bs [(2, 198), (0, v)] nM h Q := by
  refine s_enter pn_J4 rfl (Nat.le_of_ble_eq_true rfl) (L := [(2, _), (0, _)]) rfl ?_
  refine s_aload_n dJ4_append_bf812_0 rfl ?_
  refine s_iload_n dJ4_append_bf812_1 rfl ?_
  refine e_callSU (d' := d - 1) (bc' := bc) (bs' := bs) (as := [_]) nh_0 dJ4_append_bf812_2 su_J4_53 (dd_ (by omega) (by decide)) ⟨Nat.le_refl _, Nat.le_refl _⟩ rfl rfl (Nat.le_of_ble_eq_true rfl) ?_
  refine c_J5_apn (by omega) T v0 v1 hl hbc hbs (fun h1 t1 f1 e1 => ?_)
  refine s_pop dJ4_append_bf812_5 rfl ?_
  refine s_aload_n dJ4_append_bf812_6 rfl ?_
  exact s_areturn dJ4_append_bf812_7 rfl (Or.inl ⟨_, rfl⟩) (k h1 t1 f1 e1)
end SBG
