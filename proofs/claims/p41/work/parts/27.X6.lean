/-! WillHouse$Will: what a text told for good; its rows lie behind the object (12 given, 13 fund, 29 parent, 30 child, 31 kin, 32 kind, 33 person, 34 thing, 35 amount, 36 rank), its names of things one, of persons fourteen behind -/
section X6
variable {d bc bs : Nat} {Q : PQ} {h : PH} {a : Int}
theorem fl2_s {h : PH} {a b i n v w : Int} (hi : i < n) (hab : ¬ a = b) : fl_ (fl_ (hs_ (hs_ h a i v) b i w) a (i + 1) n v) b (i + 1) n w = fl_ (fl_ h a i n v) b i n w := by
  funext x y
  simp only [fl_, hs_]
  repeat' split
  all_goals first | rfl | omega
set_option maxRecDepth 100000 in
set_option maxHeartbeats 4000000 in
theorem lp_X6_clear (A : isO nN a 5) : ∀ (m : Nat) (i : Int) (h : PH), G h → 0 ≤ i → i + m = 8 → Q.1 none nN (fl_ (fl_ h (a + 12) i 8 0) (a + 13) i 8 0) → S_ MX6_clear d bc bs Q 23 [(2, a), (0, i)] [] nN h := by
  intro m
  induction m with
  | zero =>
    intro i h hG i0 i1 k
    refine s_iload_n dX6_clear_23 rfl ?_
    refine s_bipush dX6_clear_24 (by decide) ?_
    refine s_icmp_ge (tgt := 49) dX6_clear_26 (by decide) (by first | exact hG.2 _ _ | exact b01_in _ | assumption | exact ⟨by omega, by omega⟩) (by first | exact hG.2 _ _ | exact b01_in _ | assumption | exact ⟨by omega, by omega⟩) (fun c1 => ?_) (fun c1 => ?_)
    · have e : i = 8 := by omega
      subst e
      rw [fl_0, fl_0] at k
      exact s_return dX6_clear_49 rfl k
    · exact absurd c1 (by omega)
  | succ m ih =>
    intro i h hG i0 i1 k
    refine s_iload_n dX6_clear_23 rfl ?_
    refine s_bipush dX6_clear_24 (by decide) ?_
    refine s_icmp_ge (tgt := 49) dX6_clear_26 (by decide) (by first | exact hG.2 _ _ | exact b01_in _ | assumption | exact ⟨by omega, by omega⟩) (by first | exact hG.2 _ _ | exact b01_in _ | assumption | exact ⟨by omega, by omega⟩) (fun c1 => ?_) (fun c1 => ?_)
    · exact absurd c1 (by omega)
    · refine s_aload_n dX6_clear_29 rfl ?_
      refine s_getr dX6_clear_30 fl_X6_20 kl_5 (by decide) rfl A (z := 1) rfl (rf_5_1 hG.1 A) (rk_5_1 A).1 ?_
      refine s_iload_n dX6_clear_33 rfl ?_
      refine s_iconst dX6_clear_34 ?_
      refine s_bastore2G dX6_clear_35 (rk_5_1 A) (by omega) (by omega) hG (by first | exact Or.inl rfl | exact Or.inr rfl | assumption | omega) (fun hG1 => ?_)
      refine s_aload_n dX6_clear_36 rfl ?_
      refine s_getr dX6_clear_37 fl_X6_24 kl_5 (by decide) rfl A (z := 2) rfl (rf_5_2 hG1.1 A) (rk_5_2 A).1 ?_
      refine s_iload_n dX6_clear_40 rfl ?_
      refine s_iconst dX6_clear_41 ?_
      refine s_bastore2G dX6_clear_42 (rk_5_2 A) (by omega) (by omega) hG1 (by first | exact Or.inl rfl | exact Or.inr rfl | assumption | omega) (fun hG2 => ?_)
      refine s_iinc dX6_clear_43 rfl (by decide) rfl (L' := [_, _]) rfl ?_
      refine s_goto (tgt := 23) dX6_clear_46 (by decide) ?_
      refine ih (i + 1) _ hG2 (by omega) (by omega) ?_
      rw [fl2_s (by omega) (by omega)]
      exact k
set_option maxRecDepth 100000 in
set_option maxHeartbeats 4000000 in
theorem c_X6_clear  (A : isO nN a 5) (hG : G h) (k : Q.1 none nN (fl_ (fl_ (hs_ (hs_ (hs_ h (a + 1) 1 0) (a + 14) 1 0) a 7 0) (a + 12) 0 8 0) (a + 13) 0 8 0)) : Cl_ yX6_clear MX6_clear d bc bs [(2, a)] nN h Q := by
  refine s_enter pn_X6 rfl (Nat.le_of_ble_eq_true rfl) (L := [(2, _), (9, 0)]) rfl ?_
  refine s_aload_n dX6_clear_0 rfl ?_
  refine s_getr dX6_clear_1 fl_X6_14 kl_5 (by decide) rfl A (z := 0) rfl (rf_5_0 hG.1 A) (rk_5_0 A).1 ?_
  refine s_iconst dX6_clear_4 ?_
  refine s_putiG 1 dX6_clear_5 fl_X6_55 kl_2 (by decide) rfl rfl (rk_5_0 A) (z := 1) rfl (by decide +kernel) hG (by first | exact hG.2 _ _ | exact b01_in _ | assumption | exact ⟨by omega, by omega⟩) (fun hG1 => ?_)
  refine s_aload_n dX6_clear_8 rfl ?_
  refine s_getr dX6_clear_9 fl_X6_27 kl_5 (by decide) rfl A (z := 3) rfl (rf_5_3 hG1.1 A) (rk_5_3 A).1 ?_
  refine s_iconst dX6_clear_12 ?_
  refine s_putiG 1 dX6_clear_13 fl_X6_55 kl_2 (by decide) rfl rfl (rk_5_3 A) (z := 1) rfl (by decide +kernel) hG1 (by first | exact hG1.2 _ _ | exact hG.2 _ _ | exact b01_in _ | assumption | exact ⟨by omega, by omega⟩) (fun hG2 => ?_)
  refine s_aload_n dX6_clear_16 rfl ?_
  refine s_iconst dX6_clear_17 ?_
  refine s_putiG 7 dX6_clear_18 fl_X6_59 kl_5 (by decide) rfl rfl A (z := 7) rfl (by decide +kernel) hG2 (by first | exact hG2.2 _ _ | exact hG.2 _ _ | exact b01_in _ | assumption | exact ⟨by omega, by omega⟩) (fun hG3 => ?_)
  refine s_iconst dX6_clear_21 ?_
  refine s_istore_n dX6_clear_22 (by decide) rfl (L' := [_, _]) rfl ?_
  exact lp_X6_clear A 8 0 _ hG3 (by omega) (by omega) k
set_option maxRecDepth 100000 in
set_option maxHeartbeats 4000000 in
theorem c_X6_putPerson {n p c : Int} (A : isO nN a 5) (hG : G h) (n0 : 0 ≤ n) (n1 : n < 12) (p0 : -1 ≤ p) (p1 : p < 12) (hc : c = 0 ∨ c = 1) (k : Q.1 none nN (hs_ (hs_ (hs_ h (a + 29) n p) (a + 30) n c) (a + 31) n (if ¬ c = 0 ∨ (¬ p = -1 ∧ ¬ h (a + 31) p = 0) then 1 else 0))) : Cl_ yX6_putPerson MX6_putPerson d bc bs [(2, a), (0, n), (0, p), (0, c)] nN h Q := by
  refine s_enter pn_X6 rfl (Nat.le_of_ble_eq_true rfl) (L := [(2, _), (0, _), (0, _), (0, _)]) rfl ?_
  refine s_aload_n dX6_putPerson_0 rfl ?_
  refine s_getr dX6_putPerson_1 fl_X6_30 kl_5 (by decide) rfl A (z := 4) rfl (rf_5_4 hG.1 A) (rk_5_4 A).1 ?_
  refine s_iload_n dX6_putPerson_4 rfl ?_
  refine s_iload_n dX6_putPerson_5 rfl ?_
  refine s_iastoreG dX6_putPerson_6 (rk_5_4 A) (by omega) (by omega) hG (by first | exact hG.2 _ _ | exact b01_in _ | assumption | exact ⟨by omega, by omega⟩) (fun hG1 => ?_)
  refine s_aload_n dX6_putPerson_7 rfl ?_
  refine s_getr dX6_putPerson_8 fl_X6_34 kl_5 (by decide) rfl A (z := 5) rfl (rf_5_5 hG1.1 A) (rk_5_5 A).1 ?_
  refine s_iload_n dX6_putPerson_11 rfl ?_
  refine s_iload_n dX6_putPerson_12 rfl ?_
  refine s_bastore2G dX6_putPerson_13 (rk_5_5 A) (by omega) (by omega) hG1 (by first | exact Or.inl rfl | exact Or.inr rfl | assumption | omega) (fun hG2 => ?_)
  refine s_aload_n dX6_putPerson_14 rfl ?_
  refine s_getr dX6_putPerson_15 fl_X6_37 kl_5 (by decide) rfl A (z := 6) rfl (rf_5_6 hG2.1 A) (rk_5_6 A).1 ?_
  refine s_iload_n dX6_putPerson_18 rfl ?_
  refine s_iload_n dX6_putPerson_19 rfl ?_
  refine s_if_ne (tgt := 37) dX6_putPerson_20 (by decide) (by first | exact hG2.2 _ _ | exact hG.2 _ _ | exact b01_in _ | assumption | exact ⟨by omega, by omega⟩) (fun c1 => ?_) (fun c1 => ?_)
  · refine s_iconst dX6_putPerson_37 ?_
    refine s_goto (tgt := 42) dX6_putPerson_38 (by decide) ?_
    refine s_bastore2G dX6_putPerson_42 (rk_5_6 A) (by omega) (by omega) hG2 (by first | exact Or.inl rfl | exact Or.inr rfl | assumption | omega) (fun hG3 => ?_)
    exact s_return dX6_putPerson_43 rfl (by first | (rw [if_pos (show ¬ c = 0 ∨ (¬ p = -1 ∧ ¬ h (a + 31) p = 0) by omega)] at k; exact k) | (rw [if_neg (show ¬ (¬ c = 0 ∨ (¬ p = -1 ∧ ¬ h (a + 31) p = 0)) by omega)] at k; exact k))
  · refine s_iload_n dX6_putPerson_23 rfl ?_
    refine s_iconst dX6_putPerson_24 ?_
    refine s_icmp_eq (tgt := 41) dX6_putPerson_25 (by decide) (by first | exact hG2.2 _ _ | exact hG.2 _ _ | exact b01_in _ | assumption | exact ⟨by omega, by omega⟩) (by first | exact hG2.2 _ _ | exact hG.2 _ _ | exact b01_in _ | assumption | exact ⟨by omega, by omega⟩) (fun c2 => ?_) (fun c2 => ?_)
    · refine s_iconst dX6_putPerson_41 ?_
      refine s_bastore2G dX6_putPerson_42 (rk_5_6 A) (by omega) (by omega) hG2 (by first | exact Or.inl rfl | exact Or.inr rfl | assumption | omega) (fun hG4 => ?_)
      exact s_return dX6_putPerson_43 rfl (by first | (rw [if_pos (show ¬ c = 0 ∨ (¬ p = -1 ∧ ¬ h (a + 31) p = 0) by omega)] at k; exact k) | (rw [if_neg (show ¬ (¬ c = 0 ∨ (¬ p = -1 ∧ ¬ h (a + 31) p = 0)) by omega)] at k; exact k))
    · refine s_aload_n dX6_putPerson_28 rfl ?_
      refine s_getr dX6_putPerson_29 fl_X6_37 kl_5 (by decide) rfl A (z := 6) rfl (rf_5_6 hG2.1 A) (rk_5_6 A).1 ?_
      refine s_iload_n dX6_putPerson_32 rfl ?_
      refine s_baload2 dX6_putPerson_33 (rk_5_6 A) (by omega) (by omega) ?_
      try simp (disch := omega) only [hs_same, hs_ne, fl_in, fl_ne, cp_inn, cp_nee]
      refine s_if_eq (tgt := 41) dX6_putPerson_34 (by decide) (by first | exact hG2.2 _ _ | exact hG.2 _ _ | exact b01_in _ | assumption | exact ⟨by omega, by omega⟩) (fun c3 => ?_) (fun c3 => ?_)
      · refine s_iconst dX6_putPerson_41 ?_
        refine s_bastore2G dX6_putPerson_42 (rk_5_6 A) (by omega) (by omega) hG2 (by first | exact Or.inl rfl | exact Or.inr rfl | assumption | omega) (fun hG5 => ?_)
        exact s_return dX6_putPerson_43 rfl (by first | (rw [if_pos (show ¬ c = 0 ∨ (¬ p = -1 ∧ ¬ h (a + 31) p = 0) by omega)] at k; exact k) | (rw [if_neg (show ¬ (¬ c = 0 ∨ (¬ p = -1 ∧ ¬ h (a + 31) p = 0)) by omega)] at k; exact k))
      · refine s_iconst dX6_putPerson_37 ?_
        refine s_goto (tgt := 42) dX6_putPerson_38 (by decide) ?_
        refine s_bastore2G dX6_putPerson_42 (rk_5_6 A) (by omega) (by omega) hG2 (by first | exact Or.inl rfl | exact Or.inr rfl | assumption | omega) (fun hG6 => ?_)
        exact s_return dX6_putPerson_43 rfl (by first | (rw [if_pos (show ¬ c = 0 ∨ (¬ p = -1 ∧ ¬ h (a + 31) p = 0) by omega)] at k; exact k) | (rw [if_neg (show ¬ (¬ c = 0 ∨ (¬ p = -1 ∧ ¬ h (a + 31) p = 0)) by omega)] at k; exact k))
/-- a gift is put behind the others -/
def ag_ (h : PH) (a g kd p t m r : Int) : PH := hs_ (hs_ (hs_ (hs_ (hs_ (hs_ h (a + 32) g kd) (a + 33) g p) (a + 34) g t) (a + 35) g m) (a + 36) g r) a 7 (g + 1)
set_option maxRecDepth 100000 in
set_option maxHeartbeats 4000000 in
theorem c_X6_addGift {g kd p t m r : Int} (A : isO nN a 5) (hG : G h) (hg : h a 7 = g) (g0 : 0 ≤ g) (g1 : g < 12) (hk : inI kd) (hp : inI p) (ht : inI t) (hm : inI m) (hr : inI r) (t0 : kd = 0 ∨ kd = 2 → 0 ≤ t ∧ t < 8) (k0 : kd = 0 → Q.1 none nN (hs_ (ag_ h a g kd p t m r) (a + 12) t 1)) (k2 : kd = 2 → Q.1 none nN (hs_ (ag_ h a g kd p t m r) (a + 13) t 1)) (k1 : ¬ kd = 0 → ¬ kd = 2 → Q.1 none nN (ag_ h a g kd p t m r)) : Cl_ yX6_addGift MX6_addGift d bc bs [(2, a), (0, kd), (0, p), (0, t), (0, m), (0, r)] nN h Q := by
  refine s_enter pn_X6 rfl (Nat.le_of_ble_eq_true rfl) (L := [(2, _), (0, _), (0, _), (0, _), (0, _), (0, _)]) rfl ?_
  refine s_aload_n dX6_addGift_0 rfl ?_
  refine s_getr dX6_addGift_1 fl_X6_40 kl_5 (by decide) rfl A (z := 8) rfl (rf_5_8 hG.1 A) (rk_5_8 A).1 ?_
  refine s_aload_n dX6_addGift_4 rfl ?_
  refine s_geti dX6_addGift_5 fl_X6_59 kl_5 (by decide) rfl A (z := 7) rfl ?_
  rw [hg]
  refine s_iload_n dX6_addGift_8 rfl ?_
  refine s_iastoreG dX6_addGift_9 (rk_5_8 A) (by omega) (by omega) hG (by first | exact hG.2 _ _ | exact b01_in _ | assumption | exact ⟨by omega, by omega⟩) (fun hG1 => ?_)
  refine s_aload_n dX6_addGift_10 rfl ?_
  refine s_getr dX6_addGift_11 fl_X6_43 kl_5 (by decide) rfl A (z := 9) rfl (rf_5_9 hG1.1 A) (rk_5_9 A).1 ?_
  refine s_aload_n dX6_addGift_14 rfl ?_
  refine s_geti dX6_addGift_15 fl_X6_59 kl_5 (by decide) rfl A (z := 7) rfl ?_
  try simp (disch := omega) only [hs_same, hs_ne, fl_in, fl_ne, cp_inn, cp_nee]
  rw [hg]
  refine s_iload_n dX6_addGift_18 rfl ?_
  refine s_iastoreG dX6_addGift_19 (rk_5_9 A) (by omega) (by omega) hG1 (by first | exact hG1.2 _ _ | exact hG.2 _ _ | exact b01_in _ | assumption | exact ⟨by omega, by omega⟩) (fun hG2 => ?_)
  refine s_aload_n dX6_addGift_20 rfl ?_
  refine s_getr dX6_addGift_21 fl_X6_46 kl_5 (by decide) rfl A (z := 10) rfl (rf_5_10 hG2.1 A) (rk_5_10 A).1 ?_
  refine s_aload_n dX6_addGift_24 rfl ?_
  refine s_geti dX6_addGift_25 fl_X6_59 kl_5 (by decide) rfl A (z := 7) rfl ?_
  try simp (disch := omega) only [hs_same, hs_ne, fl_in, fl_ne, cp_inn, cp_nee]
  rw [hg]
  refine s_iload_n dX6_addGift_28 rfl ?_
  refine s_iastoreG dX6_addGift_29 (rk_5_10 A) (by omega) (by omega) hG2 (by first | exact hG2.2 _ _ | exact hG.2 _ _ | exact b01_in _ | assumption | exact ⟨by omega, by omega⟩) (fun hG3 => ?_)
  refine s_aload_n dX6_addGift_30 rfl ?_
  refine s_getr dX6_addGift_31 fl_X6_49 kl_5 (by decide) rfl A (z := 11) rfl (rf_5_11 hG3.1 A) (rk_5_11 A).1 ?_
  refine s_aload_n dX6_addGift_34 rfl ?_
  refine s_geti dX6_addGift_35 fl_X6_59 kl_5 (by decide) rfl A (z := 7) rfl ?_
  try simp (disch := omega) only [hs_same, hs_ne, fl_in, fl_ne, cp_inn, cp_nee]
  rw [hg]
  refine s_iload dX6_addGift_38 rfl ?_
  refine s_iastoreG dX6_addGift_40 (rk_5_11 A) (by omega) (by omega) hG3 (by first | exact hG3.2 _ _ | exact hG.2 _ _ | exact b01_in _ | assumption | exact ⟨by omega, by omega⟩) (fun hG4 => ?_)
  refine s_aload_n dX6_addGift_41 rfl ?_
  refine s_getr dX6_addGift_42 fl_X6_52 kl_5 (by decide) rfl A (z := 12) rfl (rf_5_12 hG4.1 A) (rk_5_12 A).1 ?_
  refine s_aload_n dX6_addGift_45 rfl ?_
  refine s_geti dX6_addGift_46 fl_X6_59 kl_5 (by decide) rfl A (z := 7) rfl ?_
  try simp (disch := omega) only [hs_same, hs_ne, fl_in, fl_ne, cp_inn, cp_nee]
  rw [hg]
  refine s_iload dX6_addGift_49 rfl ?_
  refine s_iastoreG dX6_addGift_51 (rk_5_12 A) (by omega) (by omega) hG4 (by first | exact hG4.2 _ _ | exact hG.2 _ _ | exact b01_in _ | assumption | exact ⟨by omega, by omega⟩) (fun hG5 => ?_)
  refine s_aload_n dX6_addGift_52 rfl ?_
  refine s_dup dX6_addGift_53 rfl ?_
  refine s_geti dX6_addGift_54 fl_X6_59 kl_5 (by decide) rfl A (z := 7) rfl ?_
  try simp (disch := omega) only [hs_same, hs_ne, fl_in, fl_ne, cp_inn, cp_nee]
  rw [hg]
  refine s_iconst dX6_addGift_57 ?_
  refine s_iadd dX6_addGift_58 ?_
  refine s_putiG 7 dX6_addGift_59 fl_X6_59 kl_5 (by decide) rfl rfl A (z := 7) rfl (by decide +kernel) hG5 (by first | exact hG5.2 _ _ | exact hG.2 _ _ | exact b01_in _ | assumption | exact ⟨by omega, by omega⟩) (fun hG6 => ?_)
  refine s_iload_n dX6_addGift_62 rfl ?_
  refine s_if_ne (tgt := 76) dX6_addGift_63 (by decide) (by first | exact hG6.2 _ _ | exact hG.2 _ _ | exact b01_in _ | assumption | exact ⟨by omega, by omega⟩) (fun c1 => ?_) (fun c1 => ?_)
  · refine s_iload_n dX6_addGift_76 rfl ?_
    refine s_iconst dX6_addGift_77 ?_
    refine s_icmp_ne (tgt := 88) dX6_addGift_78 (by decide) (by first | exact hG6.2 _ _ | exact hG.2 _ _ | exact b01_in _ | assumption | exact ⟨by omega, by omega⟩) (by first | exact hG6.2 _ _ | exact hG.2 _ _ | exact b01_in _ | assumption | exact ⟨by omega, by omega⟩) (fun c2 => ?_) (fun c2 => ?_)
    · first | exact s_return dX6_addGift_88 rfl (k0 (by first | assumption | omega)) | exact s_return dX6_addGift_88 rfl (k2 (by first | assumption | omega)) | exact s_return dX6_addGift_88 rfl (k1 (by first | assumption | omega) (by first | assumption | omega))
    · have tt := t0 (Or.inr c2)
      
      refine s_aload_n dX6_addGift_81 rfl ?_
      refine s_getr dX6_addGift_82 fl_X6_24 kl_5 (by decide) rfl A (z := 2) rfl (rf_5_2 hG6.1 A) (rk_5_2 A).1 ?_
      refine s_iload_n dX6_addGift_85 rfl ?_
      refine s_iconst dX6_addGift_86 ?_
      refine s_bastore2G dX6_addGift_87 (rk_5_2 A) (by omega) (by omega) hG6 (by first | exact Or.inl rfl | exact Or.inr rfl | assumption | omega) (fun hG7 => ?_)
      first | exact s_return dX6_addGift_88 rfl (k0 (by first | assumption | omega)) | exact s_return dX6_addGift_88 rfl (k2 (by first | assumption | omega)) | exact s_return dX6_addGift_88 rfl (k1 (by first | assumption | omega) (by first | assumption | omega))
  · have tt := t0 (Or.inl c1)
    refine s_aload_n dX6_addGift_66 rfl ?_
    refine s_getr dX6_addGift_67 fl_X6_20 kl_5 (by decide) rfl A (z := 1) rfl (rf_5_1 hG6.1 A) (rk_5_1 A).1 ?_
    refine s_iload_n dX6_addGift_70 rfl ?_
    refine s_iconst dX6_addGift_71 ?_
    refine s_bastore2G dX6_addGift_72 (rk_5_1 A) (by omega) (by omega) hG6 (by first | exact Or.inl rfl | exact Or.inr rfl | assumption | omega) (fun hG8 => ?_)
    refine s_goto (tgt := 88) dX6_addGift_73 (by decide) ?_
    first | exact s_return dX6_addGift_88 rfl (k0 (by first | assumption | omega)) | exact s_return dX6_addGift_88 rfl (k2 (by first | assumption | omega)) | exact s_return dX6_addGift_88 rfl (k1 (by first | assumption | omega) (by first | assumption | omega))
end X6
