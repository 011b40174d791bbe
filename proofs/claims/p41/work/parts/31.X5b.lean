/-! WillHouse$Reckoning, what writes: stocks, estate, claims, classes -/
section X5B
variable {d bc bs : Nat} {Q : PQ} {r w f : Int}
/-- all is laid anew: nothing is due, got, taken, inherited; nobody counted -/
def clr_ (r : Int) (h h' : PH) : Prop := (∀ x y : Int, ¬ (x = r + 1 ∨ (r + 5 ≤ x ∧ x ≤ r + 16) ∨ (r + 18 ≤ x ∧ x ≤ r + 29) ∨ (r + 31 ≤ x ∧ x ≤ r + 43) ∨ (x = r ∧ 10 ≤ y ∧ y ≤ 13)) → h' x y = h x y) ∧
  (∀ g k : Int, 0 ≤ g → g < 12 → 0 ≤ k → k < 7 → h' (r + 4 + 1 + g) k = 0 ∧ h' (r + 17 + 1 + g) k = 0) ∧ (∀ g k : Int, 0 ≤ g → g < 12 → 0 ≤ k → k < 12 → h' (r + 30 + 1 + g) k = 0) ∧
  (∀ k : Int, 0 ≤ k → k < 12 → h' (r + 1) k = 0 ∧ h' (r + 43) k = 0) ∧ h' r 10 = 0 ∧ h' r 11 = 0 ∧ h' r 12 = -1 ∧ h' r 13 = 0
set_option maxRecDepth 100000 in
set_option maxHeartbeats 4000000 in
theorem lp_X5_clear {h0 : PH} (hd : 2 ≤ d) (A : isO nN r 4) (q : ∀ h' : PH, G h' → clr_ r h0 h' → Q.1 none nN h') : ∀ (m : Nat) (i : Int) (h : PH), (G h) → (0 ≤ i) → (i + m = 12) → (∀ x y : Int, ¬ ((r + 5 ≤ x ∧ x ≤ r + 16) ∨ (r + 18 ≤ x ∧ x ≤ r + 29) ∨ (r + 31 ≤ x ∧ x ≤ r + 42)) → h x y = h0 x y) → (∀ g k : Int, 0 ≤ g → g < i → 0 ≤ k → k < 7 → h (r + 4 + 1 + g) k = 0 ∧ h (r + 17 + 1 + g) k = 0) → (∀ g k : Int, 0 ≤ g → g < i → 0 ≤ k → k < 12 → h (r + 30 + 1 + g) k = 0) → S_ MX5_clear d bc bs Q 2 [(2, r), (0, i)] [] nN h := by
  intro m
  induction m with
  | zero =>
    intro i h hG i0 i1 v1 v2 v3
    refine s_iload_n dX5_clear_2 rfl ?_
    refine s_bipush dX5_clear_3 (by decide) ?_
    refine s_icmp_ge (tgt := 44) dX5_clear_5 (by decide) (by first | exact hG.2 _ _ | exact b01_in _ | assumption | exact ⟨by omega, by omega⟩) (by first | exact hG.2 _ _ | exact b01_in _ | assumption | exact ⟨by omega, by omega⟩) (fun c1 => ?_) (fun c1 => ?_)
    · refine s_aload_n dX5_clear_44 rfl ?_
      refine s_getr dX5_clear_45 fl_X5_9 kl_4 (by decide) rfl A (z := 0) rfl (rf_4_0 hG.1 A) (rk_4_0 A).1 ?_
      refine s_iconst dX5_clear_48 ?_
      refine s_callS (d' := d - 1) (bc' := 0) (bs' := 0) (as := [_, _]) dX5_clear_49 sf_X5_89 (dd_ (by omega) (by decide)) ⟨Nat.zero_le _, Nat.zero_le _⟩ rfl rfl (Nat.le_of_ble_eq_true rfl) ?_
      refine c_fill (rk_4_0 A) (by first | exact hG.2 _ _ | exact b01_in _ | assumption | exact ⟨by omega, by omega⟩) hG (fun hG1 => ?_)
      refine s_aload_n dX5_clear_52 rfl ?_
      refine s_getr dX5_clear_53 fl_X5_33 kl_4 (by decide) rfl A (z := 6) rfl (rf_4_6 hG1.1 A) (rk_4_6 A).1 ?_
      refine s_iconst dX5_clear_56 ?_
      refine s_callS (d' := d - 1) (bc' := 0) (bs' := 0) (as := [_, _]) dX5_clear_57 sf_X5_89 (dd_ (by omega) (by decide)) ⟨Nat.zero_le _, Nat.zero_le _⟩ rfl rfl (Nat.le_of_ble_eq_true rfl) ?_
      refine c_fill (rk_4_6 A) (by first | exact hG1.2 _ _ | exact hG.2 _ _ | exact b01_in _ | assumption | exact ⟨by omega, by omega⟩) hG1 (fun hG2 => ?_)
      refine s_aload_n dX5_clear_60 rfl ?_
      refine s_iconst dX5_clear_61 ?_
      refine s_putiG 10 dX5_clear_62 fl_X5_95 kl_4 (by decide) rfl rfl A (z := 10) rfl (by decide +kernel) hG2 (by first | exact hG2.2 _ _ | exact hG.2 _ _ | exact b01_in _ | assumption | exact ⟨by omega, by omega⟩) (fun hG3 => ?_)
      refine s_aload_n dX5_clear_65 rfl ?_
      refine s_iconst dX5_clear_66 ?_
      refine s_putiG 11 dX5_clear_67 fl_X5_98 kl_4 (by decide) rfl rfl A (z := 11) rfl (by decide +kernel) hG3 (by first | exact hG3.2 _ _ | exact hG.2 _ _ | exact b01_in _ | assumption | exact ⟨by omega, by omega⟩) (fun hG4 => ?_)
      refine s_aload_n dX5_clear_70 rfl ?_
      refine s_iconst dX5_clear_71 ?_
      refine s_putiG 12 dX5_clear_72 fl_X5_101 kl_4 (by decide) rfl rfl A (z := 12) rfl (by decide +kernel) hG4 (by first | exact hG4.2 _ _ | exact hG.2 _ _ | exact b01_in _ | assumption | exact ⟨by omega, by omega⟩) (fun hG5 => ?_)
      refine s_aload_n dX5_clear_75 rfl ?_
      refine s_iconst dX5_clear_76 ?_
      refine s_putiG 13 dX5_clear_77 fl_X5_104 kl_4 (by decide) rfl rfl A (z := 13) rfl (by decide +kernel) hG5 (by first | exact hG5.2 _ _ | exact hG.2 _ _ | exact b01_in _ | assumption | exact ⟨by omega, by omega⟩) (fun hG6 => ?_)
      exact s_return dX5_clear_80 rfl (q _ hG6 ⟨(by
          intro x y hx
          simp (disch := omega) only [hs_same, hs_ne, fl_in, fl_ne, cp_inn, cp_nee]
          exact v1 x y (by omega)), (by
          intro g k g0 g1 k0 k1
          simp (disch := omega) only [hs_same, hs_ne, fl_in, fl_ne, cp_inn, cp_nee]
          exact v2 g k g0 (by omega) k0 k1), (by
          intro g k g0 g1 k0 k1
          simp (disch := omega) only [hs_same, hs_ne, fl_in, fl_ne, cp_inn, cp_nee]
          exact v3 g k g0 (by omega) k0 k1), (by
          intro k k0 k1
          simp (disch := omega) only [hs_same, hs_ne, fl_in, fl_ne, cp_inn, cp_nee]
          exact ⟨trivial, trivial⟩), (by simp (disch := omega) only [hs_same, hs_ne, fl_in, fl_ne, cp_inn, cp_nee]), (by simp (disch := omega) only [hs_same, hs_ne, fl_in, fl_ne, cp_inn, cp_nee]), (by simp (disch := omega) only [hs_same, hs_ne, fl_in, fl_ne, cp_inn, cp_nee]), (by simp (disch := omega) only [hs_same, hs_ne, fl_in, fl_ne, cp_inn, cp_nee])⟩)
    · exact absurd c1 (by omega)
  | succ m ih =>
    intro i h hG i0 i1 v1 v2 v3
    refine s_iload_n dX5_clear_2 rfl ?_
    refine s_bipush dX5_clear_3 (by decide) ?_
    refine s_icmp_ge (tgt := 44) dX5_clear_5 (by decide) (by first | exact hG.2 _ _ | exact b01_in _ | assumption | exact ⟨by omega, by omega⟩) (by first | exact hG.2 _ _ | exact b01_in _ | assumption | exact ⟨by omega, by omega⟩) (fun c1 => ?_) (fun c1 => ?_)
    · exact absurd c1 (by omega)
    · refine s_aload_n dX5_clear_8 rfl ?_
      refine s_getr dX5_clear_9 fl_X5_24 kl_4 (by decide) rfl A (z := 3) rfl (rf_4_3 hG.1 A) (rk_4_3 A).1 ?_
      refine s_iload_n dX5_clear_12 rfl ?_
      refine s_aaload4 dX5_clear_13 (rk_4_3 A) (by omega) (by omega) (rw_4_3 hG.1 A (by omega) (by omega)) (rx_4_3 A (by omega) (by omega)).1 ?_
      refine s_iconst dX5_clear_14 ?_
      refine s_callS (d' := d - 1) (bc' := 0) (bs' := 0) (as := [_, _]) dX5_clear_15 sf_X5_89 (dd_ (by omega) (by decide)) ⟨Nat.zero_le _, Nat.zero_le _⟩ rfl rfl (Nat.le_of_ble_eq_true rfl) ?_
      refine c_fill (rx_4_3 A (by omega) (by omega)) (by first | exact hG.2 _ _ | exact b01_in _ | assumption | exact ⟨by omega, by omega⟩) hG (fun hG1 => ?_)
      refine s_aload_n dX5_clear_18 rfl ?_
      refine s_getr dX5_clear_19 fl_X5_27 kl_4 (by decide) rfl A (z := 4) rfl (rf_4_4 hG1.1 A) (rk_4_4 A).1 ?_
      refine s_iload_n dX5_clear_22 rfl ?_
      refine s_aaload4 dX5_clear_23 (rk_4_4 A) (by omega) (by omega) (rw_4_4 hG1.1 A (by omega) (by omega)) (rx_4_4 A (by omega) (by omega)).1 ?_
      refine s_iconst dX5_clear_24 ?_
      refine s_callS (d' := d - 1) (bc' := 0) (bs' := 0) (as := [_, _]) dX5_clear_25 sf_X5_89 (dd_ (by omega) (by decide)) ⟨Nat.zero_le _, Nat.zero_le _⟩ rfl rfl (Nat.le_of_ble_eq_true rfl) ?_
      refine c_fill (rx_4_4 A (by omega) (by omega)) (by first | exact hG1.2 _ _ | exact hG.2 _ _ | exact b01_in _ | assumption | exact ⟨by omega, by omega⟩) hG1 (fun hG2 => ?_)
      refine s_aload_n dX5_clear_28 rfl ?_
      refine s_getr dX5_clear_29 fl_X5_30 kl_4 (by decide) rfl A (z := 5) rfl (rf_4_5 hG2.1 A) (rk_4_5 A).1 ?_
      refine s_iload_n dX5_clear_32 rfl ?_
      refine s_aaload4 dX5_clear_33 (rk_4_5 A) (by omega) (by omega) (rw_4_5 hG2.1 A (by omega) (by omega)) (rx_4_5 A (by omega) (by omega)).1 ?_
      refine s_iconst dX5_clear_34 ?_
      refine s_callS (d' := d - 1) (bc' := 0) (bs' := 0) (as := [_, _]) dX5_clear_35 sf_X5_89 (dd_ (by omega) (by decide)) ⟨Nat.zero_le _, Nat.zero_le _⟩ rfl rfl (Nat.le_of_ble_eq_true rfl) ?_
      refine c_fill (rx_4_5 A (by omega) (by omega)) (by first | exact hG2.2 _ _ | exact hG.2 _ _ | exact b01_in _ | assumption | exact ⟨by omega, by omega⟩) hG2 (fun hG3 => ?_)
      refine s_iinc dX5_clear_38 rfl (by decide) rfl (L' := [_, _]) rfl ?_
      refine s_goto (tgt := 2) dX5_clear_41 (by decide) ?_
      refine ih (i + 1) _ hG3 (by omega) (by omega) ?_ ?_ ?_
      · intro x y hx
        simp (disch := omega) only [hs_same, hs_ne, fl_in, fl_ne, cp_inn, cp_nee]
        exact v1 x y hx
      · intro g k g0 g1 k0 k1
        rcases (by omega : g < i ∨ g = i) with q | q
        · simp (disch := omega) only [hs_same, hs_ne, fl_in, fl_ne, cp_inn, cp_nee]
          exact v2 g k g0 q k0 k1
        · subst q
          simp (disch := omega) only [hs_same, hs_ne, fl_in, fl_ne, cp_inn, cp_nee]
          exact ⟨trivial, trivial⟩
      · intro g k g0 g1 k0 k1
        rcases (by omega : g < i ∨ g = i) with q | q
        · simp (disch := omega) only [hs_same, hs_ne, fl_in, fl_ne, cp_inn, cp_nee]
          exact v3 g k g0 q k0 k1
        · subst q
          simp (disch := omega) only [hs_same, hs_ne, fl_in, fl_ne, cp_inn, cp_nee]
set_option maxRecDepth 100000 in
set_option maxHeartbeats 4000000 in
theorem c_X5_clear {h : PH} (hd : 2 ≤ d) (A : isO nN r 4) (hG : G h) (q : ∀ h' : PH, G h' → clr_ r h h' → Q.1 none nN h') : Cl_ yX5_clear MX5_clear d bc bs [(2, r)] nN h Q := by
  refine s_enter pn_X5 rfl (Nat.le_of_ble_eq_true rfl) (L := [(2, _), (9, 0)]) rfl ?_
  refine s_iconst dX5_clear_0 ?_
  refine s_istore_n dX5_clear_1 (by decide) rfl (L' := [_, _]) rfl ?_
  exact lp_X5_clear hd A q 12 0 h hG (by omega) (by omega) (fun _ _ _ => rfl) (fun g k g0 g1 => by omega) (fun g k g0 g1 => by omega)
end X5B
