/-! the reference takes what was told -/
theorem s_bastoreZG {E : EP} {M : PM} {d bc bs : Nat} {Q : PQ} {pc : Nat} {L st : List PV} {h : PH} {a i v : Int} {n : Nat} (hd : decode M.2.1 pc = .ok (.bastore, 1)) (A : isA nN a 2 n) (h0 : 0 ≤ i) (h1 : i < n) (hG : G h) (kk : G (hs_ h a i (v % 2)) → SE_ E M d bc bs Q (pc + 1) L st nN (hs_ h a i (v % 2))) : SE_ E M d bc bs Q pc L ((0, v) :: (0, i) :: (2, a) :: st) nN h :=
  s_bastoreZ hd A h0 h1 (kk (g_putA hG A (by decide) ⟨by omega, by omega⟩))
/-- what was told is taken -/
def TK_ (h h1 : PH) : Prop := (h1 196 5 = h 196 19 ∧ h1 196 6 = h 196 20 ∧ h1 196 7 = h 196 21 ∧ h1 196 4 = 0) ∧ (∀ j : Int, 0 ≤ j → j < 61 → h1 (196 + 1) j = h (196 + 10) j) ∧ (∀ j : Int, 0 ≤ j → j < 8 → h1 (196 + 4) j = h (196 + 11) j) ∧
  (∀ j : Int, 0 ≤ j → j < 12 → h1 (196 + 5) j = h (196 + 12) j ∧ h1 (196 + 6) j = h (196 + 13) j ∧ h1 (196 + 7) j = h (196 + 14) j % 2) ∧ (∀ j : Int, 0 ≤ j → j < 60 → h1 (196 + 8) j = h (196 + 15) j) ∧
  (∀ x y : Int, ¬ (x = 196 ∧ 4 ≤ y ∧ y ≤ 7) → ¬ x = 196 + 1 → ¬ (196 + 4 ≤ x ∧ x ≤ 196 + 8) → h1 x y = h x y)
section X9Z
variable {d bc bs : Nat} {Q : PQ} {h h0 : PH}
set_option maxRecDepth 100000 in
set_option maxHeartbeats 4000000 in
theorem lp_X9_tkA  (K : ∀ (h : PH) (i : Int), G h → (∀ x y : Int, ¬ x = 196 + 1 → h x y = h0 x y) → (∀ j : Int, 0 ≤ j → j < 61 → h (196 + 1) j = h0 (196 + 10) j) → S_ MX9_takesAll d bc bs Q 50 [(2, 196), (0, i)] [] nN h) : ∀ (m : Nat) (i : Int) (h : PH), (0 ≤ i) → (i + m = 61) → (G h) → (∀ x y : Int, ¬ x = 196 + 1 → h x y = h0 x y) → (∀ j : Int, 0 ≤ j → j < i → h (196 + 1) j = h0 (196 + 10) j) → S_ MX9_takesAll d bc bs Q 26 [(2, 196), (0, i)] [] nN h := by
  intro m
  induction m with
  | zero =>
    intro i h i0 im hG fr H
    refine s_iload_n dX9_takesAll_26 rfl ?_
    refine s_bipush dX9_takesAll_27 (by decide) ?_
    refine s_icmp_ge (tgt := 50) dX9_takesAll_29 (by decide) (by first | exact hG.2 _ _ | exact b01_in _ | assumption | exact ⟨by omega, by omega⟩) (by first | exact hG.2 _ _ | exact b01_in _ | assumption | exact ⟨by omega, by omega⟩) (fun c1 => ?_) (fun c1 => ?_)
    · exact K h i hG fr (fun j j0 j1 => H j j0 (by omega))
    · exact absurd c1 (by omega)
  | succ m ih =>
    intro i h i0 im hG fr H
    refine s_iload_n dX9_takesAll_26 rfl ?_
    refine s_bipush dX9_takesAll_27 (by decide) ?_
    refine s_icmp_ge (tgt := 50) dX9_takesAll_29 (by decide) (by first | exact hG.2 _ _ | exact b01_in _ | assumption | exact ⟨by omega, by omega⟩) (by first | exact hG.2 _ _ | exact b01_in _ | assumption | exact ⟨by omega, by omega⟩) (fun c1 => ?_) (fun c1 => ?_)
    · exact absurd c1 (by omega)
    · refine s_aload_n dX9_takesAll_32 rfl ?_
      refine s_getr dX9_takesAll_33 fl_X9_7 kl_7 (by decide) rfl io_196 (z := 1) rfl (rf_7_1 hG.1 io_196) (rk_7_1 io_196).1 ?_
      refine s_iload_n dX9_takesAll_36 rfl ?_
      refine s_aload_n dX9_takesAll_37 rfl ?_
      refine s_getr dX9_takesAll_38 fl_X9_43 kl_7 (by decide) rfl io_196 (z := 22) rfl (rf_7_22 hG.1 io_196) (rk_7_22 io_196).1 ?_
      refine s_iload_n dX9_takesAll_41 rfl ?_
      refine s_iaload dX9_takesAll_42 (rk_7_22 io_196) (by omega) (by omega) ?_
      refine s_iastoreG dX9_takesAll_43 (rk_7_1 io_196) (by omega) (by omega) hG (by first | exact hG.2 _ _ | exact b01_in _ | assumption | exact ⟨by omega, by omega⟩) (fun hG1 => ?_)
      refine s_iinc dX9_takesAll_44 rfl (by decide) rfl (L' := [_, _]) rfl ?_
      refine s_goto (tgt := 26) dX9_takesAll_47 (by decide) ?_
      refine ih (i + 1) _ (by omega) (by omega) hG1 (fun x y c => by rw [hs_ne _ (by omega)]; exact fr x y c) (fun j j0 j1 => ?_)
      by_cases q : j = i
      · rw [q, hs_eq]
        exact fr _ _ (by omega)
      · rw [hs_ne _ (by omega)]
        exact H j j0 (by omega)
set_option maxRecDepth 100000 in
set_option maxHeartbeats 4000000 in
theorem lp_X9_tkB  (K : ∀ (h : PH) (i : Int), G h → (∀ x y : Int, ¬ x = 196 + 4 → h x y = h0 x y) → (∀ j : Int, 0 ≤ j → j < 8 → h (196 + 4) j = h0 (196 + 11) j) → S_ MX9_takesAll d bc bs Q 76 [(2, 196), (0, i)] [] nN h) : ∀ (m : Nat) (i : Int) (h : PH), (0 ≤ i) → (i + m = 8) → (G h) → (∀ x y : Int, ¬ x = 196 + 4 → h x y = h0 x y) → (∀ j : Int, 0 ≤ j → j < i → h (196 + 4) j = h0 (196 + 11) j) → S_ MX9_takesAll d bc bs Q 52 [(2, 196), (0, i)] [] nN h := by
  intro m
  induction m with
  | zero =>
    intro i h i0 im hG fr H
    refine s_iload_n dX9_takesAll_52 rfl ?_
    refine s_bipush dX9_takesAll_53 (by decide) ?_
    refine s_icmp_ge (tgt := 76) dX9_takesAll_55 (by decide) (by first | exact hG.2 _ _ | exact b01_in _ | assumption | exact ⟨by omega, by omega⟩) (by first | exact hG.2 _ _ | exact b01_in _ | assumption | exact ⟨by omega, by omega⟩) (fun c1 => ?_) (fun c1 => ?_)
    · exact K h i hG fr (fun j j0 j1 => H j j0 (by omega))
    · exact absurd c1 (by omega)
  | succ m ih =>
    intro i h i0 im hG fr H
    refine s_iload_n dX9_takesAll_52 rfl ?_
    refine s_bipush dX9_takesAll_53 (by decide) ?_
    refine s_icmp_ge (tgt := 76) dX9_takesAll_55 (by decide) (by first | exact hG.2 _ _ | exact b01_in _ | assumption | exact ⟨by omega, by omega⟩) (by first | exact hG.2 _ _ | exact b01_in _ | assumption | exact ⟨by omega, by omega⟩) (fun c1 => ?_) (fun c1 => ?_)
    · exact absurd c1 (by omega)
    · refine s_aload_n dX9_takesAll_58 rfl ?_
      refine s_getr dX9_takesAll_59 fl_X9_19 kl_7 (by decide) rfl io_196 (z := 8) rfl (rf_7_8 hG.1 io_196) (rk_7_8 io_196).1 ?_
      refine s_iload_n dX9_takesAll_62 rfl ?_
      refine s_aload_n dX9_takesAll_63 rfl ?_
      refine s_getr dX9_takesAll_64 fl_X9_46 kl_7 (by decide) rfl io_196 (z := 23) rfl (rf_7_23 hG.1 io_196) (rk_7_23 io_196).1 ?_
      refine s_iload_n dX9_takesAll_67 rfl ?_
      refine s_iaload dX9_takesAll_68 (rk_7_23 io_196) (by omega) (by omega) ?_
      refine s_iastoreG dX9_takesAll_69 (rk_7_8 io_196) (by omega) (by omega) hG (by first | exact hG.2 _ _ | exact b01_in _ | assumption | exact ⟨by omega, by omega⟩) (fun hG1 => ?_)
      refine s_iinc dX9_takesAll_70 rfl (by decide) rfl (L' := [_, _]) rfl ?_
      refine s_goto (tgt := 52) dX9_takesAll_73 (by decide) ?_
      refine ih (i + 1) _ (by omega) (by omega) hG1 (fun x y c => by rw [hs_ne _ (by omega)]; exact fr x y c) (fun j j0 j1 => ?_)
      by_cases q : j = i
      · rw [q, hs_eq]
        exact fr _ _ (by omega)
      · rw [hs_ne _ (by omega)]
        exact H j j0 (by omega)
set_option maxRecDepth 100000 in
set_option maxHeartbeats 4000000 in
theorem lp_X9_tkD  (K : ∀ (h : PH) (i : Int), G h → (∀ x y : Int, ¬ x = 196 + 8 → h x y = h0 x y) → (∀ j : Int, 0 ≤ j → j < 60 → h (196 + 8) j = h0 (196 + 15) j) → S_ MX9_takesAll d bc bs Q 152 [(2, 196), (0, i)] [] nN h) : ∀ (m : Nat) (i : Int) (h : PH), (0 ≤ i) → (i + m = 60) → (G h) → (∀ x y : Int, ¬ x = 196 + 8 → h x y = h0 x y) → (∀ j : Int, 0 ≤ j → j < i → h (196 + 8) j = h0 (196 + 15) j) → S_ MX9_takesAll d bc bs Q 128 [(2, 196), (0, i)] [] nN h := by
  intro m
  induction m with
  | zero =>
    intro i h i0 im hG fr H
    refine s_iload_n dX9_takesAll_128 rfl ?_
    refine s_bipush dX9_takesAll_129 (by decide) ?_
    refine s_icmp_ge (tgt := 152) dX9_takesAll_131 (by decide) (by first | exact hG.2 _ _ | exact b01_in _ | assumption | exact ⟨by omega, by omega⟩) (by first | exact hG.2 _ _ | exact b01_in _ | assumption | exact ⟨by omega, by omega⟩) (fun c1 => ?_) (fun c1 => ?_)
    · exact K h i hG fr (fun j j0 j1 => H j j0 (by omega))
    · exact absurd c1 (by omega)
  | succ m ih =>
    intro i h i0 im hG fr H
    refine s_iload_n dX9_takesAll_128 rfl ?_
    refine s_bipush dX9_takesAll_129 (by decide) ?_
    refine s_icmp_ge (tgt := 152) dX9_takesAll_131 (by decide) (by first | exact hG.2 _ _ | exact b01_in _ | assumption | exact ⟨by omega, by omega⟩) (by first | exact hG.2 _ _ | exact b01_in _ | assumption | exact ⟨by omega, by omega⟩) (fun c1 => ?_) (fun c1 => ?_)
    · exact absurd c1 (by omega)
    · refine s_aload_n dX9_takesAll_134 rfl ?_
      refine s_getr dX9_takesAll_135 fl_X9_32 kl_7 (by decide) rfl io_196 (z := 12) rfl (rf_7_12 hG.1 io_196) (rk_7_12 io_196).1 ?_
      refine s_iload_n dX9_takesAll_138 rfl ?_
      refine s_aload_n dX9_takesAll_139 rfl ?_
      refine s_getr dX9_takesAll_140 fl_X9_58 kl_7 (by decide) rfl io_196 (z := 27) rfl (rf_7_27 hG.1 io_196) (rk_7_27 io_196).1 ?_
      refine s_iload_n dX9_takesAll_143 rfl ?_
      refine s_iaload dX9_takesAll_144 (rk_7_27 io_196) (by omega) (by omega) ?_
      refine s_iastoreG dX9_takesAll_145 (rk_7_12 io_196) (by omega) (by omega) hG (by first | exact hG.2 _ _ | exact b01_in _ | assumption | exact ⟨by omega, by omega⟩) (fun hG1 => ?_)
      refine s_iinc dX9_takesAll_146 rfl (by decide) rfl (L' := [_, _]) rfl ?_
      refine s_goto (tgt := 128) dX9_takesAll_149 (by decide) ?_
      refine ih (i + 1) _ (by omega) (by omega) hG1 (fun x y c => by rw [hs_ne _ (by omega)]; exact fr x y c) (fun j j0 j1 => ?_)
      by_cases q : j = i
      · rw [q, hs_eq]
        exact fr _ _ (by omega)
      · rw [hs_ne _ (by omega)]
        exact H j j0 (by omega)
set_option maxRecDepth 100000 in
set_option maxHeartbeats 4000000 in
theorem lp_X9_tkC  (K : ∀ (h : PH) (i : Int), G h → (∀ x y : Int, ¬ (196 + 5 ≤ x ∧ x ≤ 196 + 7) → h x y = h0 x y) → (∀ j : Int, 0 ≤ j → j < 12 → h (196 + 5) j = h0 (196 + 12) j ∧ h (196 + 6) j = h0 (196 + 13) j ∧ h (196 + 7) j = h0 (196 + 14) j % 2) → S_ MX9_takesAll d bc bs Q 126 [(2, 196), (0, i)] [] nN h) : ∀ (m : Nat) (i : Int) (h : PH), (0 ≤ i) → (i + m = 12) → (G h) → (∀ x y : Int, ¬ (196 + 5 ≤ x ∧ x ≤ 196 + 7) → h x y = h0 x y) → (∀ j : Int, 0 ≤ j → j < i → h (196 + 5) j = h0 (196 + 12) j ∧ h (196 + 6) j = h0 (196 + 13) j ∧ h (196 + 7) j = h0 (196 + 14) j % 2) → S_ MX9_takesAll d bc bs Q 78 [(2, 196), (0, i)] [] nN h := by
  intro m
  induction m with
  | zero =>
    intro i h i0 im hG fr H
    refine s_iload_n dX9_takesAll_78 rfl ?_
    refine s_bipush dX9_takesAll_79 (by decide) ?_
    refine s_icmp_ge (tgt := 126) dX9_takesAll_81 (by decide) (by first | exact hG.2 _ _ | exact b01_in _ | assumption | exact ⟨by omega, by omega⟩) (by first | exact hG.2 _ _ | exact b01_in _ | assumption | exact ⟨by omega, by omega⟩) (fun c1 => ?_) (fun c1 => ?_)
    · exact K h i hG fr (fun j j0 j1 => H j j0 (by omega))
    · exact absurd c1 (by omega)
  | succ m ih =>
    intro i h i0 im hG fr H
    refine s_iload_n dX9_takesAll_78 rfl ?_
    refine s_bipush dX9_takesAll_79 (by decide) ?_
    refine s_icmp_ge (tgt := 126) dX9_takesAll_81 (by decide) (by first | exact hG.2 _ _ | exact b01_in _ | assumption | exact ⟨by omega, by omega⟩) (by first | exact hG.2 _ _ | exact b01_in _ | assumption | exact ⟨by omega, by omega⟩) (fun c1 => ?_) (fun c1 => ?_)
    · exact absurd c1 (by omega)
    · refine s_aload_n dX9_takesAll_84 rfl ?_
      refine s_getr dX9_takesAll_85 fl_X9_22 kl_7 (by decide) rfl io_196 (z := 9) rfl (rf_7_9 hG.1 io_196) (rk_7_9 io_196).1 ?_
      refine s_iload_n dX9_takesAll_88 rfl ?_
      refine s_aload_n dX9_takesAll_89 rfl ?_
      refine s_getr dX9_takesAll_90 fl_X9_49 kl_7 (by decide) rfl io_196 (z := 24) rfl (rf_7_24 hG.1 io_196) (rk_7_24 io_196).1 ?_
      refine s_iload_n dX9_takesAll_93 rfl ?_
      refine s_iaload dX9_takesAll_94 (rk_7_24 io_196) (by omega) (by omega) ?_
      refine s_iastoreG dX9_takesAll_95 (rk_7_9 io_196) (by omega) (by omega) hG (by first | exact hG.2 _ _ | exact b01_in _ | assumption | exact ⟨by omega, by omega⟩) (fun hG1 => ?_)
      refine s_aload_n dX9_takesAll_96 rfl ?_
      refine s_getr dX9_takesAll_97 fl_X9_25 kl_7 (by decide) rfl io_196 (z := 10) rfl (rf_7_10 hG1.1 io_196) (rk_7_10 io_196).1 ?_
      refine s_iload_n dX9_takesAll_100 rfl ?_
      refine s_aload_n dX9_takesAll_101 rfl ?_
      refine s_getr dX9_takesAll_102 fl_X9_52 kl_7 (by decide) rfl io_196 (z := 25) rfl (rf_7_25 hG1.1 io_196) (rk_7_25 io_196).1 ?_
      refine s_iload_n dX9_takesAll_105 rfl ?_
      refine s_iaload dX9_takesAll_106 (rk_7_25 io_196) (by omega) (by omega) ?_
      refine s_iastoreG dX9_takesAll_107 (rk_7_10 io_196) (by omega) (by omega) hG1 (by first | exact hG1.2 _ _ | exact hG.2 _ _ | exact b01_in _ | assumption | exact ⟨by omega, by omega⟩) (fun hG2 => ?_)
      refine s_aload_n dX9_takesAll_108 rfl ?_
      refine s_getr dX9_takesAll_109 fl_X9_28 kl_7 (by decide) rfl io_196 (z := 11) rfl (rf_7_11 hG2.1 io_196) (rk_7_11 io_196).1 ?_
      refine s_iload_n dX9_takesAll_112 rfl ?_
      refine s_aload_n dX9_takesAll_113 rfl ?_
      refine s_getr dX9_takesAll_114 fl_X9_55 kl_7 (by decide) rfl io_196 (z := 26) rfl (rf_7_26 hG2.1 io_196) (rk_7_26 io_196).1 ?_
      refine s_iload_n dX9_takesAll_117 rfl ?_
      refine s_baload2 dX9_takesAll_118 (rk_7_26 io_196) (by omega) (by omega) ?_
      refine s_bastoreZG dX9_takesAll_119 (rk_7_11 io_196) (by omega) (by omega) hG2 (fun hG3 => ?_)
      refine s_iinc dX9_takesAll_120 rfl (by decide) rfl (L' := [_, _]) rfl ?_
      refine s_goto (tgt := 78) dX9_takesAll_123 (by decide) ?_
      refine ih (i + 1) _ (by omega) (by omega) hG3 (fun x y c => by rw [hs_ne _ (by omega), hs_ne _ (by omega), hs_ne _ (by omega)]; exact fr x y c) (fun j j0 j1 => ?_)
      by_cases q : j = i
      · rw [q, hs_eq, hs_ne _ (by omega), hs_ne _ (by omega), hs_eq, hs_ne _ (by omega), hs_eq, hs_ne _ (by omega), hs_ne _ (by omega), hs_ne _ (by omega)]
        exact ⟨fr _ _ (by omega), fr _ _ (by omega), by rw [fr _ _ (by omega)]⟩
      · rw [hs_ne _ (by omega), hs_ne _ (by omega), hs_ne _ (by omega), hs_ne _ (by omega), hs_ne _ (by omega), hs_ne _ (by omega), hs_ne _ (by omega), hs_ne _ (by omega), hs_ne _ (by omega)]
        exact H j j0 (by omega)
end X9Z
