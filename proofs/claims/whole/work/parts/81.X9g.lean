/-! the reference: all laid out -/
section X9G
variable {d bc bs : Nat} {Q : PQ} {h h0 hb z : PH}
def FY_ (c : Int) (h0 h : PH) : Prop := ∀ x y : Int, ¬ x = 196 + 22 → ¬ x = 196 + 23 → ¬ x = 196 + 24 → ¬ (x = 196 + 19 ∧ y % 7 = c) → ¬ (x = 196 ∧ y = 33) → h x y = h0 x y
theorem fy_sc {c : Int} {h0 h : PH} (f : FY_ c h0 h) : SC_ h0 h := fun x y a b => f x y (by omega) (by omega) (by omega) (by omega) (by omega)
set_option maxRecDepth 100000 in
set_option maxHeartbeats 4000000 in
theorem lp_X9_payA {c l s : Int} {D : Int → Int} (M0 : MR_ h0 z) (c0 : 0 ≤ c) (c5 : c ≤ 5) (hD : ∀ g : Int, 0 ≤ g → g < z 0 2 → h0 (196 + 18) (7 * g + c) = D g ∧ 0 ≤ D g ∧ D g ≤ 1000000) (k : ∀ h : PH, G h → FY_ c h0 h → (∀ i : Int, 0 ≤ i → i < z 0 2 → h (196 + 19) (7 * i + c) = D i) → h 196 33 = h0 196 33 → Q.1 (some (0, l - s)) nN h) : ∀ (m : Nat) (g : Int) (h : PH), (0 ≤ g) → (g + m = z 0 2) → (G h) → (FY_ c h0 h) → (∀ i : Int, 0 ≤ i → i < g → h (196 + 19) (7 * i + c) = D i) → (h 196 33 = h0 196 33) → S_ MX9_pays d bc bs Q 15 [(2, 196), (0, c), (0, l), (0, s), (0, g)] [] nN h := by
  intro m
  induction m with
  | zero =>
    intro g h g0 gm gG fr H ec
    have hG := gG
    have M := sc_M M0 gG (fy_sc fr)
    have I := mr_i M
    have hT := I.2.1
    have hP := I.2.2.1
    have hN := I.2.2.2.1
    have nn := M.2.1
    refine s_iload dX9_pays_15 rfl ?_
    refine s_aload_n dX9_pays_17 rfl ?_
    refine s_geti dX9_pays_18 fl_X9_275 kl_7 (by decide) rfl io_196 (z := 7) rfl ?_
    refine s_icmp_ge (tgt := 54) dX9_pays_21 (by decide) (by first | exact hG.2 _ _ | exact b01_in _ | assumption | exact ⟨by omega, by omega⟩) (by first | exact hG.2 _ _ | exact b01_in _ | assumption | exact ⟨by omega, by omega⟩) (fun c1 => ?_) (fun c1 => ?_)
    · refine s_iload_n dX9_pays_54 rfl ?_
      refine s_iload_n dX9_pays_55 rfl ?_
      refine s_isub dX9_pays_56 ?_
      exact s_ireturn dX9_pays_57 rfl (k h gG fr (fun i i0 i1 => H i i0 (by omega)) ec)
    · exact absurd c1 (by omega)
  | succ m ih =>
    intro g h g0 gm gG fr H ec
    have hG := gG
    have M := sc_M M0 gG (fy_sc fr)
    have I := mr_i M
    have hT := I.2.1
    have hP := I.2.2.1
    have hN := I.2.2.2.1
    have nn := M.2.1
    refine s_iload dX9_pays_15 rfl ?_
    refine s_aload_n dX9_pays_17 rfl ?_
    refine s_geti dX9_pays_18 fl_X9_275 kl_7 (by decide) rfl io_196 (z := 7) rfl ?_
    refine s_icmp_ge (tgt := 54) dX9_pays_21 (by decide) (by first | exact hG.2 _ _ | exact b01_in _ | assumption | exact ⟨by omega, by omega⟩) (by first | exact hG.2 _ _ | exact b01_in _ | assumption | exact ⟨by omega, by omega⟩) (fun c1 => ?_) (fun c1 => ?_)
    · exact absurd c1 (by omega)
    · refine s_aload_n dX9_pays_24 rfl ?_
      refine s_getr dX9_pays_25 fl_X9_70 kl_7 (by decide) rfl io_196 (z := 31) rfl (rf_7_31 hG.1 io_196) (rk_7_31 io_196).1 ?_
      refine s_bipush dX9_pays_28 (by decide) ?_
      refine s_iload dX9_pays_30 rfl ?_
      refine s_imul dX9_pays_32 ?_
      refine s_iload_n dX9_pays_33 rfl ?_
      refine s_iadd dX9_pays_34 ?_
      refine s_aload_n dX9_pays_35 rfl ?_
      refine s_getr dX9_pays_36 fl_X9_67 kl_7 (by decide) rfl io_196 (z := 30) rfl (rf_7_30 hG.1 io_196) (rk_7_30 io_196).1 ?_
      refine s_bipush dX9_pays_39 (by decide) ?_
      refine s_iload dX9_pays_41 rfl ?_
      refine s_imul dX9_pays_43 ?_
      refine s_iload_n dX9_pays_44 rfl ?_
      refine s_iadd dX9_pays_45 ?_
      refine s_iaload dX9_pays_46 (rk_7_30 io_196) (by omega) (by omega) ?_
      have dg := hD g g0 (by omega)
      rw [fr _ _ (by omega) (by omega) (by omega) (by omega) (by omega), dg.1]
      refine s_iastoreG dX9_pays_47 (rk_7_31 io_196) (by omega) (by omega) hG (by first | exact hG.2 _ _ | exact b01_in _ | assumption | exact ⟨by omega, by omega⟩) (fun hG1 => ?_)
      refine s_iinc dX9_pays_48 rfl (by decide) rfl (L' := [_, _, _, _, _]) rfl ?_
      refine s_goto (tgt := 15) dX9_pays_51 (by decide) ?_
      refine ih (g + 1) _ (by omega) (by omega) hG1 (fun x y a b e f w => by rw [hs_ne _ (by omega)]; exact fr x y a b e f w) (fun i i0 i1 => ?_) (by rw [hs_ne _ (by omega)]; exact ec)
      by_cases q : i = g
      · rw [q, hs_eq]
      · rw [hs_ne _ (by omega)]
        exact H i i0 (by omega)
set_option maxRecDepth 100000 in
set_option maxHeartbeats 4000000 in
theorem lp_X9_payB {c l s : Int} {D : Int → Int} (M0 : MR_ h0 z) (c0 : 0 ≤ c) (c5 : c ≤ 5) (hD : ∀ g : Int, 0 ≤ g → g < z 0 2 → h0 (196 + 18) (7 * g + c) = D g ∧ 0 ≤ D g ∧ D g ≤ 1000000) (K : ∀ (h : PH) (g : Int), G h → FY_ c h0 h → (∀ i : Int, 0 ≤ i → i < z 0 2 → h (196 + 23) i = D i) → h 196 33 = hb 196 33 → S_ MX9_pays d bc bs Q 116 [(2, 196), (0, c), (0, l), (0, s), (0, g)] [] nN h) : ∀ (m : Nat) (g : Int) (h : PH), (0 ≤ g) → (g + m = z 0 2) → (G h) → (FY_ c h0 h) → (∀ i : Int, 0 ≤ i → i < g → h (196 + 23) i = D i) → (h 196 33 = hb 196 33) → S_ MX9_pays d bc bs Q 81 [(2, 196), (0, c), (0, l), (0, s), (0, g)] [] nN h := by
  intro m
  induction m with
  | zero =>
    intro g h g0 gm gG fr H ec
    have hG := gG
    have M := sc_M M0 gG (fy_sc fr)
    have I := mr_i M
    have hT := I.2.1
    have hP := I.2.2.1
    have hN := I.2.2.2.1
    have nn := M.2.1
    refine s_iload dX9_pays_81 rfl ?_
    refine s_aload_n dX9_pays_83 rfl ?_
    refine s_geti dX9_pays_84 fl_X9_275 kl_7 (by decide) rfl io_196 (z := 7) rfl ?_
    refine s_icmp_ge (tgt := 116) dX9_pays_87 (by decide) (by first | exact hG.2 _ _ | exact b01_in _ | assumption | exact ⟨by omega, by omega⟩) (by first | exact hG.2 _ _ | exact b01_in _ | assumption | exact ⟨by omega, by omega⟩) (fun c1 => ?_) (fun c1 => ?_)
    · exact K h g gG fr (fun i i0 i1 => H i i0 (by omega)) ec
    · exact absurd c1 (by omega)
  | succ m ih =>
    intro g h g0 gm gG fr H ec
    have hG := gG
    have M := sc_M M0 gG (fy_sc fr)
    have I := mr_i M
    have hT := I.2.1
    have hP := I.2.2.1
    have hN := I.2.2.2.1
    have nn := M.2.1
    refine s_iload dX9_pays_81 rfl ?_
    refine s_aload_n dX9_pays_83 rfl ?_
    refine s_geti dX9_pays_84 fl_X9_275 kl_7 (by decide) rfl io_196 (z := 7) rfl ?_
    refine s_icmp_ge (tgt := 116) dX9_pays_87 (by decide) (by first | exact hG.2 _ _ | exact b01_in _ | assumption | exact ⟨by omega, by omega⟩) (by first | exact hG.2 _ _ | exact b01_in _ | assumption | exact ⟨by omega, by omega⟩) (fun c1 => ?_) (fun c1 => ?_)
    · exact absurd c1 (by omega)
    · refine s_aload_n dX9_pays_90 rfl ?_
      refine s_getr dX9_pays_91 fl_X9_83 kl_7 (by decide) rfl io_196 (z := 39) rfl (rf_7_39 hG.1 io_196) (rk_7_39 io_196).1 ?_
      refine s_iload dX9_pays_94 rfl ?_
      refine s_aload_n dX9_pays_96 rfl ?_
      refine s_getr dX9_pays_97 fl_X9_67 kl_7 (by decide) rfl io_196 (z := 30) rfl (rf_7_30 hG.1 io_196) (rk_7_30 io_196).1 ?_
      refine s_bipush dX9_pays_100 (by decide) ?_
      refine s_iload dX9_pays_102 rfl ?_
      refine s_imul dX9_pays_104 ?_
      refine s_iload_n dX9_pays_105 rfl ?_
      refine s_iadd dX9_pays_106 ?_
      refine s_iaload dX9_pays_107 (rk_7_30 io_196) (by omega) (by omega) ?_
      have dg := hD g g0 (by omega)
      rw [fr _ _ (by omega) (by omega) (by omega) (by omega) (by omega), dg.1]
      refine s_i2l dX9_pays_108 (by first | exact hG.2 _ _ | exact b01_in _ | assumption | exact ⟨by omega, by omega⟩) ?_
      refine s_lastoreG dX9_pays_109 (rk_7_39 io_196) (by omega) (by omega) hG (by first | exact hG.2 _ _ | exact b01_in _ | assumption | exact ⟨by omega, by omega⟩) (fun hG1 => ?_)
      refine s_iinc dX9_pays_110 rfl (by decide) rfl (L' := [_, _, _, _, _]) rfl ?_
      refine s_goto (tgt := 81) dX9_pays_113 (by decide) ?_
      refine ih (g + 1) _ (by omega) (by omega) hG1 (fun x y a b e f w => by rw [hs_ne _ (by omega)]; exact fr x y a b e f w) (fun i i0 i1 => ?_) (by rw [hs_ne _ (by omega)]; exact ec)
      by_cases q : i = g
      · rw [q, hs_eq]
      · rw [hs_ne _ (by omega)]
        exact H i i0 (by omega)
set_option maxRecDepth 100000 in
set_option maxHeartbeats 4000000 in
theorem lp_X9_payC {c l s : Int} {X : Int → Int} (M0 : MR_ h0 z) (c0 : 0 ≤ c) (c5 : c ≤ 5) (hX : ∀ g : Int, 0 ≤ g → g < z 0 2 → h0 (196 + 24) g = X g ∧ inI (X g)) (k : ∀ h : PH, G h → (∀ x y : Int, ¬ (x = 196 + 19 ∧ y % 7 = c) → h x y = h0 x y) → (∀ i : Int, 0 ≤ i → i < z 0 2 → h (196 + 19) (7 * i + c) = X i) → Q.1 (some (0, 0)) nN h) : ∀ (m : Nat) (g : Int) (h : PH), (0 ≤ g) → (g + m = z 0 2) → (G h) → (∀ x y : Int, ¬ (x = 196 + 19 ∧ y % 7 = c) → h x y = h0 x y) → (∀ i : Int, 0 ≤ i → i < g → h (196 + 19) (7 * i + c) = X i) → S_ MX9_pays d bc bs Q 124 [(2, 196), (0, c), (0, l), (0, s), (0, g)] [] nN h := by
  intro m
  induction m with
  | zero =>
    intro g h g0 gm gG fr H
    have hG := gG
    have M := sc_M M0 gG (fun x y a _ => fr x y (by omega))
    have I := mr_i M
    have hT := I.2.1
    have hP := I.2.2.1
    have hN := I.2.2.2.1
    have nn := M.2.1
    refine s_iload dX9_pays_124 rfl ?_
    refine s_aload_n dX9_pays_126 rfl ?_
    refine s_geti dX9_pays_127 fl_X9_275 kl_7 (by decide) rfl io_196 (z := 7) rfl ?_
    refine s_icmp_ge (tgt := 158) dX9_pays_130 (by decide) (by first | exact hG.2 _ _ | exact b01_in _ | assumption | exact ⟨by omega, by omega⟩) (by first | exact hG.2 _ _ | exact b01_in _ | assumption | exact ⟨by omega, by omega⟩) (fun c1 => ?_) (fun c1 => ?_)
    · refine s_iconst dX9_pays_158 ?_
      exact s_ireturn dX9_pays_159 rfl (k h gG fr (fun i i0 i1 => H i i0 (by omega)))
    · exact absurd c1 (by omega)
  | succ m ih =>
    intro g h g0 gm gG fr H
    have hG := gG
    have M := sc_M M0 gG (fun x y a _ => fr x y (by omega))
    have I := mr_i M
    have hT := I.2.1
    have hP := I.2.2.1
    have hN := I.2.2.2.1
    have nn := M.2.1
    refine s_iload dX9_pays_124 rfl ?_
    refine s_aload_n dX9_pays_126 rfl ?_
    refine s_geti dX9_pays_127 fl_X9_275 kl_7 (by decide) rfl io_196 (z := 7) rfl ?_
    refine s_icmp_ge (tgt := 158) dX9_pays_130 (by decide) (by first | exact hG.2 _ _ | exact b01_in _ | assumption | exact ⟨by omega, by omega⟩) (by first | exact hG.2 _ _ | exact b01_in _ | assumption | exact ⟨by omega, by omega⟩) (fun c1 => ?_) (fun c1 => ?_)
    · exact absurd c1 (by omega)
    · refine s_aload_n dX9_pays_133 rfl ?_
      refine s_getr dX9_pays_134 fl_X9_70 kl_7 (by decide) rfl io_196 (z := 31) rfl (rf_7_31 hG.1 io_196) (rk_7_31 io_196).1 ?_
      refine s_bipush dX9_pays_137 (by decide) ?_
      refine s_iload dX9_pays_139 rfl ?_
      refine s_imul dX9_pays_141 ?_
      refine s_iload_n dX9_pays_142 rfl ?_
      refine s_iadd dX9_pays_143 ?_
      refine s_aload_n dX9_pays_144 rfl ?_
      refine s_getr dX9_pays_145 fl_X9_86 kl_7 (by decide) rfl io_196 (z := 40) rfl (rf_7_40 hG.1 io_196) (rk_7_40 io_196).1 ?_
      refine s_iload dX9_pays_148 rfl ?_
      refine s_iaload dX9_pays_150 (rk_7_40 io_196) (by omega) (by omega) ?_
      have xg := hX g g0 (by omega)
      have xi := xg.2
      rw [fr _ _ (by omega), xg.1]
      refine s_iastoreG dX9_pays_151 (rk_7_31 io_196) (by omega) (by omega) hG (by first | exact hG.2 _ _ | exact b01_in _ | assumption | exact ⟨by omega, by omega⟩) (fun hG1 => ?_)
      refine s_iinc dX9_pays_152 rfl (by decide) rfl (L' := [_, _, _, _, _]) rfl ?_
      refine s_goto (tgt := 124) dX9_pays_155 (by decide) ?_
      refine ih (g + 1) _ (by omega) (by omega) hG1 (fun x y a => by rw [hs_ne _ (by omega)]; exact fr x y a) (fun i i0 i1 => ?_)
      by_cases q : i = g
      · rw [q, hs_eq]
      · rw [hs_ne _ (by omega)]
        exact H i i0 (by omega)
set_option maxRecDepth 100000 in
set_option maxHeartbeats 4000000 in
theorem c_X9_pays {c l : Int} {D : Int → Int} (hd : 3 ≤ d) (M : MR_ h z) (c0 : 0 ≤ c) (c5 : c ≤ 5) (l0 : 0 ≤ l) (l1 : l ≤ 1000000) (hD : ∀ g : Int, 0 ≤ g → g < z 0 2 → h (196 + 18) (7 * g + c) = D g ∧ 0 ≤ D g ∧ D g ≤ 1000000) (hS : h (196 + 20) c = sumI D 0 (z 0 2).toNat) (k : ∀ h1 : PH, G h1 → FY_ c h h1 → (∀ g : Int, 0 ≤ g → g < z 0 2 → h1 (196 + 19) (7 * g + c) = pt_ D (z 0 2) (min l (sumI D 0 (z 0 2).toNat)) g) → (h1 196 33 = if ¬ sumI D 0 (z 0 2).toNat ≤ l ∧ h 196 33 = -1 then c else h 196 33) → Q.1 (some (0, max 0 (l - sumI D 0 (z 0 2).toNat))) nN h1) : Cl_ yX9_pays MX9_pays d bc bs [(2, 196), (0, c), (0, l)] nN h Q := by
  refine s_enter pn_X9 rfl (Nat.le_of_ble_eq_true rfl) (L := [(2, _), (0, _), (0, _), (9, 0), (9, 0)]) rfl ?_
  have hG := M.1
  have I := mr_i M
  have hT := I.2.1
  have hP := I.2.2.1
  have hN := I.2.2.2.1
  have nn := M.2.1
  have s0 := sumI_nonneg (f := D) (z 0 2).toNat 0 (fun i i0 i1 => (hD i i0 (by omega)).2.1)
  have s1 := sumI_le (f := D) (b := 1000000) (z 0 2).toNat 0 (fun i i0 i1 => (hD i i0 (by omega)).2.2)
  refine s_aload_n dX9_pays_0 rfl ?_
  refine s_getr dX9_pays_1 fl_X9_73 kl_7 (by decide) rfl io_196 (z := 32) rfl (rf_7_32 hG.1 io_196) (rk_7_32 io_196).1 ?_
  refine s_iload_n dX9_pays_4 rfl ?_
  refine s_iaload dX9_pays_5 (rk_7_32 io_196) (by omega) (by omega) ?_
  rw [hS]
  refine s_istore_n dX9_pays_6 (by decide) rfl (L' := [_, _, _, _, _]) rfl ?_
  refine s_iload_n dX9_pays_7 rfl ?_
  refine s_iload_n dX9_pays_8 rfl ?_
  refine s_icmp_lt (tgt := 58) dX9_pays_9 (by decide) (by first | exact hG.2 _ _ | exact b01_in _ | assumption | exact ⟨by omega, by omega⟩) (by first | exact hG.2 _ _ | exact b01_in _ | assumption | exact ⟨by omega, by omega⟩) (fun c1 => ?_) (fun c1 => ?_)
  · refine s_aload_n dX9_pays_58 rfl ?_
    refine s_aload_n dX9_pays_59 rfl ?_
    refine s_geti dX9_pays_60 fl_X9_365 kl_7 (by decide) rfl io_196 (z := 33) rfl ?_
    refine s_iconst dX9_pays_63 ?_
    refine s_icmp_ne (tgt := 71) dX9_pays_64 (by decide) (by first | exact hG.2 _ _ | exact b01_in _ | assumption | exact ⟨by omega, by omega⟩) (by first | exact hG.2 _ _ | exact b01_in _ | assumption | exact ⟨by omega, by omega⟩) (fun c2 => ?_) (fun c2 => ?_)
    · refine s_aload_n dX9_pays_71 rfl ?_
      refine s_geti dX9_pays_72 fl_X9_365 kl_7 (by decide) rfl io_196 (z := 33) rfl ?_
      refine s_putiG 33 dX9_pays_75 fl_X9_365 kl_7 (by decide) rfl rfl io_196 (z := 33) rfl (by decide +kernel) hG (by first | exact hG.2 _ _ | exact b01_in _ | assumption | exact ⟨by omega, by omega⟩) (fun hG1 => ?_)
      refine s_iconst dX9_pays_78 ?_
      refine s_istore dX9_pays_79 (by decide) rfl (L' := [_, _, _, _, _]) rfl ?_
      refine lp_X9_payB (h0 := h) (hb := hs_ h 196 33 (h 196 33)) M c0 c5 hD (fun hB gB g9 fB wB cB => ?_) (z 0 2).toNat 0 _ (Int.le_refl _) (by omega) hG1 (fun x y a b e f w => hs_ne _ (by omega)) (fun i i0 i1 => by omega) rfl
      have MB := sc_M M g9 (fy_sc fB)
      have hG := g9
      refine s_aload_n dX9_pays_116 rfl ?_
      refine s_iload_n dX9_pays_117 rfl ?_
      refine s_callV (d' := d - 1) (bc' := 0) (bs' := 0) (as := [_]) dX9_pays_118 vf_X9_368 (dd_ (by omega) (by decide)) ⟨Nat.zero_le _, Nat.zero_le _⟩ rfl rfl (Nat.le_of_ble_eq_true rfl) kl_7 rfl io_196 ?_
      refine c_X9_parted (W := D) MB (fun i i0 i1 => ⟨wB i i0 i1, (hD i i0 i1).2⟩) l0 l1 (by omega) (fun hP gP fP eP => ?_)
      have MP := sc_M MB gP (fun x y a _ => fP x y (by omega) (by omega))
      refine s_iconst dX9_pays_121 ?_
      refine s_istore dX9_pays_122 (by decide) rfl (L' := [_, _, _, _, _]) rfl ?_
      have ptb := fun i (i0 : 0 ≤ i) (i1 : i < z 0 2) => pt_le (W := D) (n := z 0 2) (m := l) (fun g a b => (hD g a b).2.1) l0 i i0 i1
      refine lp_X9_payC MP c0 c5 (X := pt_ D (z 0 2) l) (fun i i0 i1 => ⟨eP i i0 i1, ⟨by have := ptb i i0 i1; omega, by have := ptb i i0 i1; omega⟩⟩) (fun hC gC fC eC => ?_) (z 0 2).toNat 0 hP (Int.le_refl _) (by omega) gP (fun _ _ _ => rfl) (fun i i0 i1 => by omega)
      have k9 := k hC gC (fun x y a b e f w => by rw [fC x y f, fP x y a e]; exact fB x y a b e f w) (fun i i0 i1 => by rw [show min l (sumI D 0 (z 0 2).toNat) = l by omega]; exact eC i i0 i1)
      rw [show max 0 (l - sumI D 0 (z 0 2).toNat) = 0 by omega] at k9
      refine k9 ?_
      rw [fC _ _ (by omega), fP _ _ (by omega) (by omega), cB, hs_eq]
      first | (rw [if_pos ⟨by omega, by omega⟩]; done) | (rw [if_neg (by omega)]; done)
    · refine s_iload_n dX9_pays_67 rfl ?_
      refine s_goto (tgt := 75) dX9_pays_68 (by decide) ?_
      refine s_putiG 33 dX9_pays_75 fl_X9_365 kl_7 (by decide) rfl rfl io_196 (z := 33) rfl (by decide +kernel) hG (by first | exact hG.2 _ _ | exact b01_in _ | assumption | exact ⟨by omega, by omega⟩) (fun hG2 => ?_)
      refine s_iconst dX9_pays_78 ?_
      refine s_istore dX9_pays_79 (by decide) rfl (L' := [_, _, _, _, _]) rfl ?_
      refine lp_X9_payB (h0 := h) (hb := hs_ h 196 33 (c)) M c0 c5 hD (fun hB gB g9 fB wB cB => ?_) (z 0 2).toNat 0 _ (Int.le_refl _) (by omega) hG2 (fun x y a b e f w => hs_ne _ (by omega)) (fun i i0 i1 => by omega) rfl
      have MB := sc_M M g9 (fy_sc fB)
      have hG := g9
      refine s_aload_n dX9_pays_116 rfl ?_
      refine s_iload_n dX9_pays_117 rfl ?_
      refine s_callV (d' := d - 1) (bc' := 0) (bs' := 0) (as := [_]) dX9_pays_118 vf_X9_368 (dd_ (by omega) (by decide)) ⟨Nat.zero_le _, Nat.zero_le _⟩ rfl rfl (Nat.le_of_ble_eq_true rfl) kl_7 rfl io_196 ?_
      refine c_X9_parted (W := D) MB (fun i i0 i1 => ⟨wB i i0 i1, (hD i i0 i1).2⟩) l0 l1 (by omega) (fun hP gP fP eP => ?_)
      have MP := sc_M MB gP (fun x y a _ => fP x y (by omega) (by omega))
      refine s_iconst dX9_pays_121 ?_
      refine s_istore dX9_pays_122 (by decide) rfl (L' := [_, _, _, _, _]) rfl ?_
      have ptb := fun i (i0 : 0 ≤ i) (i1 : i < z 0 2) => pt_le (W := D) (n := z 0 2) (m := l) (fun g a b => (hD g a b).2.1) l0 i i0 i1
      refine lp_X9_payC MP c0 c5 (X := pt_ D (z 0 2) l) (fun i i0 i1 => ⟨eP i i0 i1, ⟨by have := ptb i i0 i1; omega, by have := ptb i i0 i1; omega⟩⟩) (fun hC gC fC eC => ?_) (z 0 2).toNat 0 hP (Int.le_refl _) (by omega) gP (fun _ _ _ => rfl) (fun i i0 i1 => by omega)
      have k9 := k hC gC (fun x y a b e f w => by rw [fC x y f, fP x y a e]; exact fB x y a b e f w) (fun i i0 i1 => by rw [show min l (sumI D 0 (z 0 2).toNat) = l by omega]; exact eC i i0 i1)
      rw [show max 0 (l - sumI D 0 (z 0 2).toNat) = 0 by omega] at k9
      refine k9 ?_
      rw [fC _ _ (by omega), fP _ _ (by omega) (by omega), cB, hs_eq]
      first | (rw [if_pos ⟨by omega, by omega⟩]; done) | (rw [if_neg (by omega)]; done)
  · refine s_iconst dX9_pays_12 ?_
    refine s_istore dX9_pays_13 (by decide) rfl (L' := [_, _, _, _, _]) rfl ?_
    refine lp_X9_payA M c0 c5 hD (fun hA gA fA eA cA => ?_) (z 0 2).toNat 0 h (Int.le_refl _) (by omega) hG (fun _ _ _ _ _ _ _ => rfl) (fun i i0 i1 => by omega) rfl
    have k9 := k hA gA fA (fun i i0 i1 => by rw [show min l (sumI D 0 (z 0 2).toNat) = sumI D 0 (z 0 2).toNat by omega, pt_full (fun g a b => (hD g a b).2.1) i i0 i1]; exact eA i i0 i1) (by rw [if_neg (by omega)]; exact cA)
    rw [show max 0 (l - sumI D 0 (z 0 2).toNat) = l - sumI D 0 (z 0 2).toNat by omega] at k9
    exact k9
set_option maxRecDepth 100000 in
set_option maxHeartbeats 4000000 in
theorem lp_X9_intB {X : Int → Int → Int} {g y9 : Int} (hG : G h) (g0 : 0 ≤ g) (g1 : g < 12) (hX : ∀ c : Int, 1 ≤ c → c ≤ 4 → h (196 + 19) (7 * g + c) = X g c ∧ 0 ≤ X g c ∧ X g c ≤ 9999) (K : S_ MX9_laysInterest d bc bs Q 81 [(2, 196), (1, y9), (9, 0), (0, g), (1, sumI (X g) 1 4), (9, 0), (9, 0)] [] nN h) : ∀ (m : Nat) (c w : Int), (1 ≤ c) → (c + m = 5) → (w = sumI (X g) 1 (c - 1).toNat) → S_ MX9_laysInterest d bc bs Q 51 [(2, 196), (1, y9), (9, 0), (0, g), (1, w), (9, 0), (0, c)] [] nN h := by
  intro m
  induction m with
  | zero =>
    intro c w c0 cm hw
    refine s_iload dX9_laysInterest_51 rfl ?_
    refine s_iconst dX9_laysInterest_53 ?_
    refine s_icmp_ge (tgt := 81) dX9_laysInterest_54 (by decide) (by first | exact hG.2 _ _ | exact b01_in _ | assumption | exact ⟨by omega, by omega⟩) (by first | exact hG.2 _ _ | exact b01_in _ | assumption | exact ⟨by omega, by omega⟩) (fun c1 => ?_) (fun c1 => ?_)
    · have e9 : w = sumI (X g) 1 4 := by rw [hw, show (c - 1).toNat = 4 by omega]
      rw [e9]
      exact s_fg (L' := [(2, 196), (1, y9), (9, 0), (0, g), (1, sumI (X g) 1 4), (9, 0), (9, 0)]) ⟨Or.inr rfl, Or.inr rfl, Or.inr rfl, Or.inr rfl, Or.inr rfl, Or.inr rfl, Or.inl rfl, trivial⟩ K
    · exact absurd c1 (by omega)
  | succ m ih =>
    intro c w c0 cm hw
    refine s_iload dX9_laysInterest_51 rfl ?_
    refine s_iconst dX9_laysInterest_53 ?_
    refine s_icmp_ge (tgt := 81) dX9_laysInterest_54 (by decide) (by first | exact hG.2 _ _ | exact b01_in _ | assumption | exact ⟨by omega, by omega⟩) (by first | exact hG.2 _ _ | exact b01_in _ | assumption | exact ⟨by omega, by omega⟩) (fun c1 => ?_) (fun c1 => ?_)
    · exact absurd c1 (by omega)
    · refine s_lload dX9_laysInterest_57 rfl ?_
      refine s_aload_n dX9_laysInterest_59 rfl ?_
      refine s_getr dX9_laysInterest_60 fl_X9_70 kl_7 (by decide) rfl io_196 (z := 31) rfl (rf_7_31 hG.1 io_196) (rk_7_31 io_196).1 ?_
      refine s_bipush dX9_laysInterest_63 (by decide) ?_
      refine s_iload_n dX9_laysInterest_65 rfl ?_
      refine s_imul dX9_laysInterest_66 ?_
      refine s_iload dX9_laysInterest_67 rfl ?_
      refine s_iadd dX9_laysInterest_69 ?_
      refine s_iaload dX9_laysInterest_70 (rk_7_31 io_196) (by omega) (by omega) ?_
      have xg := hX c c0 (by omega)
      rw [xg.1]
      refine s_i2l dX9_laysInterest_71 (by first | exact hG.2 _ _ | exact b01_in _ | assumption | exact ⟨by omega, by omega⟩) ?_
      refine s_ladd dX9_laysInterest_72 ?_
      refine s_lstore dX9_laysInterest_73 (by decide) rfl (L' := [_, _, _, _, _, _, _]) rfl ?_
      refine s_iinc dX9_laysInterest_75 rfl (by decide) rfl (L' := [_, _, _, _, _, _, _]) rfl ?_
      refine s_goto (tgt := 51) dX9_laysInterest_78 (by decide) ?_
      exact ih (c + 1) _ (by omega) (by omega) (by rw [show (c + 1 - 1).toNat = (c - 1).toNat + 1 by omega, sumI_snoc, show (1 : Int) + ((c - 1).toNat : Nat) = c by omega, ← hw])
set_option maxRecDepth 100000 in
set_option maxHeartbeats 4000000 in
theorem lp_X9_intA {X : Int → Int → Int} {lt : Int} (hlt : lt = zlate z) (M0 : MR_ h0 z) (hX : ∀ g c : Int, 0 ≤ g → g < z 0 2 → 1 ≤ c → c ≤ 4 → h0 (196 + 19) (7 * g + c) = X g c ∧ 0 ≤ X g c ∧ X g c ≤ 9999) (k : ∀ h : PH, G h → (∀ x y : Int, ¬ (x = 196 + 18 ∧ y % 7 = 5) → ¬ (x = 196 + 20 ∧ y = 5) → h x y = h0 x y) → (∀ g : Int, 0 ≤ g → g < z 0 2 → h (196 + 18) (7 * g + 5) = (sumI (X g) 1 4 * z 1 59 * zlate z).tdiv 1200) → h (196 + 20) 5 = sumI (fun g => (sumI (X g) 1 4 * z 1 59 * zlate z).tdiv 1200) 0 (z 0 2).toNat → Q.1 none nN h) : ∀ (m : Nat) (g : Int) (h : PH), (0 ≤ g) → (g + m = z 0 2) → (G h) → (∀ x y : Int, ¬ (x = 196 + 18 ∧ y % 7 = 5) → ¬ (x = 196 + 20 ∧ y = 5) → h x y = h0 x y) → (∀ i : Int, 0 ≤ i → i < g → h (196 + 18) (7 * i + 5) = (sumI (X i) 1 4 * z 1 59 * zlate z).tdiv 1200) → (h (196 + 20) 5 = sumI (fun g => (sumI (X g) 1 4 * z 1 59 * zlate z).tdiv 1200) 0 g.toNat) → S_ MX9_laysInterest d bc bs Q 37 [(2, 196), (1, lt), (9, 0), (0, g), (9, 0), (9, 0), (9, 0)] [] nN h := by
  intro m
  induction m with
  | zero =>
    intro g h g0 gm gG fr H S
    subst hlt
    have hG := gG
    have M := sc_M M0 gG (fun x y a _ => fr x y (by omega) (by omega))
    have I := mr_i M
    have hT := I.2.1
    have hP := I.2.2.1
    have hN := I.2.2.2.1
    have nn := M.2.1
    have zl := zlate_bd I.1
    have itb : ∀ i : Int, 0 ≤ i → i < z 0 2 → 0 ≤ (sumI (X i) 1 4 * z 1 59 * zlate z).tdiv 1200 ∧ (sumI (X i) 1 4 * z 1 59 * zlate z).tdiv 1200 ≤ 1000000 := fun i a b => by
      have y0 := sumI_nonneg (f := X i) 4 1 (fun c p q => (hX i c a b p (by omega)).2.1)
      have y1 := sumI_le (f := X i) (b := 9999) 4 1 (fun c p q => (hX i c a b p (by omega)).2.2)
      have w := ci_ y0 (by omega) I.1.2.2.2.2.2.1.1 I.1.2.2.2.2.2.1.2 (zlate_bd I.1).1 (zlate_bd I.1).2
      exact ⟨w.2.2.1, w.2.2.2⟩
    have zr := I.1.2.2.2.2.2.1
    have e59 := mr_f M 59 (by omega) (by omega)
    rw [pm_h (by omega)] at e59
    refine s_iload_n dX9_laysInterest_37 rfl ?_
    refine s_aload_n dX9_laysInterest_38 rfl ?_
    refine s_geti dX9_laysInterest_39 fl_X9_275 kl_7 (by decide) rfl io_196 (z := 7) rfl ?_
    refine s_icmp_ge (tgt := 136) dX9_laysInterest_42 (by decide) (by first | exact hG.2 _ _ | exact b01_in _ | assumption | exact ⟨by omega, by omega⟩) (by first | exact hG.2 _ _ | exact b01_in _ | assumption | exact ⟨by omega, by omega⟩) (fun c1 => ?_) (fun c1 => ?_)
    · exact s_return dX9_laysInterest_136 rfl (k h gG fr (fun i i0 i1 => H i i0 (by omega)) (by rw [S, show g = z 0 2 by omega]))
    · exact absurd c1 (by omega)
  | succ m ih =>
    intro g h g0 gm gG fr H S
    subst hlt
    have hG := gG
    have M := sc_M M0 gG (fun x y a _ => fr x y (by omega) (by omega))
    have I := mr_i M
    have hT := I.2.1
    have hP := I.2.2.1
    have hN := I.2.2.2.1
    have nn := M.2.1
    have zl := zlate_bd I.1
    have itb : ∀ i : Int, 0 ≤ i → i < z 0 2 → 0 ≤ (sumI (X i) 1 4 * z 1 59 * zlate z).tdiv 1200 ∧ (sumI (X i) 1 4 * z 1 59 * zlate z).tdiv 1200 ≤ 1000000 := fun i a b => by
      have y0 := sumI_nonneg (f := X i) 4 1 (fun c p q => (hX i c a b p (by omega)).2.1)
      have y1 := sumI_le (f := X i) (b := 9999) 4 1 (fun c p q => (hX i c a b p (by omega)).2.2)
      have w := ci_ y0 (by omega) I.1.2.2.2.2.2.1.1 I.1.2.2.2.2.2.1.2 (zlate_bd I.1).1 (zlate_bd I.1).2
      exact ⟨w.2.2.1, w.2.2.2⟩
    have zr := I.1.2.2.2.2.2.1
    have e59 := mr_f M 59 (by omega) (by omega)
    rw [pm_h (by omega)] at e59
    refine s_iload_n dX9_laysInterest_37 rfl ?_
    refine s_aload_n dX9_laysInterest_38 rfl ?_
    refine s_geti dX9_laysInterest_39 fl_X9_275 kl_7 (by decide) rfl io_196 (z := 7) rfl ?_
    refine s_icmp_ge (tgt := 136) dX9_laysInterest_42 (by decide) (by first | exact hG.2 _ _ | exact b01_in _ | assumption | exact ⟨by omega, by omega⟩) (by first | exact hG.2 _ _ | exact b01_in _ | assumption | exact ⟨by omega, by omega⟩) (fun c1 => ?_) (fun c1 => ?_)
    · exact absurd c1 (by omega)
    · refine s_lconstz (z := 0) dX9_laysInterest_45 rfl ?_
      refine s_lstore dX9_laysInterest_46 (by decide) rfl (L' := [_, _, _, _, _, _, _]) rfl ?_
      refine s_iconst dX9_laysInterest_48 ?_
      refine s_istore dX9_laysInterest_49 (by decide) rfl (L' := [_, _, _, _, _, _, _]) rfl ?_
      have x0 := sumI_nonneg (f := X g) 4 1 (fun c a b => (hX g c g0 (by omega) a (by omega)).2.1)
      have x1 := sumI_le (f := X g) (b := 9999) 4 1 (fun c a b => (hX g c g0 (by omega) a (by omega)).2.2)
      have cb := ci_ x0 (by omega) zr.1 zr.2 zl.1 zl.2
      have sb0 := sumI_nonneg (f := fun g => (sumI (X g) 1 4 * z 1 59 * zlate z).tdiv 1200) g.toNat 0 (fun i a b => (itb i a (by omega)).1)
      have sb1 := sumI_le (f := fun g => (sumI (X g) 1 4 * z 1 59 * zlate z).tdiv 1200) (b := 1000000) g.toNat 0 (fun i a b => (itb i a (by omega)).2)
      refine lp_X9_intB hG g0 (by omega) (fun c a b => by rw [fr _ _ (by omega) (by omega)]; exact hX g c g0 (by omega) a b) ?_ 4 1 0 (Int.le_refl _) (by omega) rfl
      refine s_aload_n dX9_laysInterest_81 rfl ?_
      refine s_getr dX9_laysInterest_82 fl_X9_67 kl_7 (by decide) rfl io_196 (z := 30) rfl (rf_7_30 hG.1 io_196) (rk_7_30 io_196).1 ?_
      refine s_bipush dX9_laysInterest_85 (by decide) ?_
      refine s_iload_n dX9_laysInterest_87 rfl ?_
      refine s_imul dX9_laysInterest_88 ?_
      refine s_iconst dX9_laysInterest_89 ?_
      refine s_iadd dX9_laysInterest_90 ?_
      refine s_lload dX9_laysInterest_91 rfl ?_
      refine s_aload_n dX9_laysInterest_93 rfl ?_
      refine s_getr dX9_laysInterest_94 fl_X9_7 kl_7 (by decide) rfl io_196 (z := 1) rfl (rf_7_1 hG.1 io_196) (rk_7_1 io_196).1 ?_
      refine s_bipush dX9_laysInterest_97 (by decide) ?_
      refine s_iaload dX9_laysInterest_99 (rk_7_1 io_196) (by omega) (by omega) ?_
      rw [e59]
      refine s_i2l dX9_laysInterest_100 (by first | exact hG.2 _ _ | exact b01_in _ | assumption | exact ⟨by omega, by omega⟩) ?_
      refine s_lmul dX9_laysInterest_101 ?_
      refine s_lload_n dX9_laysInterest_102 rfl ?_
      refine s_lmul dX9_laysInterest_103 ?_
      refine s_ldc2 dX9_laysInterest_104 kc_X9_371 ?_
      refine s_ldiv dX9_laysInterest_107 (by first | assumption | exact inI_L (by first | exact hG.2 _ _ | exact b01_in _ | assumption | exact ⟨by omega, by omega⟩) | exact ⟨by omega, by omega⟩) (by first | assumption | exact inI_L (by first | exact hG.2 _ _ | exact b01_in _ | assumption | exact ⟨by omega, by omega⟩) | exact ⟨by omega, by omega⟩) (by omega) (by omega) ?_
      refine s_l2i dX9_laysInterest_108 ?_
      refine s_iastoreG dX9_laysInterest_109 (rk_7_30 io_196) (by omega) (by omega) hG (by first | exact hG.2 _ _ | exact b01_in _ | assumption | exact ⟨by omega, by omega⟩) (fun hG1 => ?_)
      refine s_aload_n dX9_laysInterest_110 rfl ?_
      refine s_getr dX9_laysInterest_111 fl_X9_73 kl_7 (by decide) rfl io_196 (z := 32) rfl (rf_7_32 hG1.1 io_196) (rk_7_32 io_196).1 ?_
      refine s_iconst dX9_laysInterest_114 ?_
      refine s_dup2 dX9_laysInterest_115 rfl rfl ?_
      refine s_iaload dX9_laysInterest_116 (rk_7_32 io_196) (by omega) (by omega) ?_
      rw [hs_ne _ (by omega), S]
      refine s_aload_n dX9_laysInterest_117 rfl ?_
      refine s_getr dX9_laysInterest_118 fl_X9_67 kl_7 (by decide) rfl io_196 (z := 30) rfl (rf_7_30 hG1.1 io_196) (rk_7_30 io_196).1 ?_
      refine s_bipush dX9_laysInterest_121 (by decide) ?_
      refine s_iload_n dX9_laysInterest_123 rfl ?_
      refine s_imul dX9_laysInterest_124 ?_
      refine s_iconst dX9_laysInterest_125 ?_
      refine s_iadd dX9_laysInterest_126 ?_
      refine s_iaload dX9_laysInterest_127 (rk_7_30 io_196) (by omega) (by omega) ?_
      rw [hs_eq]
      refine s_iadd dX9_laysInterest_128 ?_
      refine s_iastoreG dX9_laysInterest_129 (rk_7_32 io_196) (by omega) (by omega) hG1 (by first | exact hG1.2 _ _ | exact hG.2 _ _ | exact b01_in _ | assumption | exact ⟨by omega, by omega⟩) (fun hG2 => ?_)
      refine s_iinc dX9_laysInterest_130 rfl (by decide) rfl (L' := [_, _, _, _, _, _, _]) rfl ?_
      refine s_goto (tgt := 37) dX9_laysInterest_133 (by decide) ?_
      refine s_fg (L' := [(2, 196), (1, zlate z), (9, 0), (0, g + 1), (9, 0), (9, 0), (9, 0)]) ⟨Or.inr rfl, Or.inr rfl, Or.inr rfl, Or.inr rfl, Or.inl rfl, Or.inr rfl, Or.inr rfl, trivial⟩ ?_
      refine ih (g + 1) _ (by omega) (by omega) hG2 (fun x y a b => by rw [hs_ne _ (by omega), hs_ne _ (by omega)]; exact fr x y a b) (fun i i0 i1 => ?_) (by rw [hs_eq, sumI_up _ g0])
      by_cases q : i = g
      · rw [q, hs_ne _ (by omega), hs_eq]
      · rw [hs_ne _ (by omega), hs_ne _ (by omega)]
        exact H i i0 (by omega)
set_option maxRecDepth 100000 in
set_option maxHeartbeats 4000000 in
theorem c_X9_laysInterest {X : Int → Int → Int} (M : MR_ h z) (hX : ∀ g c : Int, 0 ≤ g → g < z 0 2 → 1 ≤ c → c ≤ 4 → h (196 + 19) (7 * g + c) = X g c ∧ 0 ≤ X g c ∧ X g c ≤ 9999) (k : ∀ h1 : PH, G h1 → (∀ x y : Int, ¬ (x = 196 + 18 ∧ y % 7 = 5) → ¬ (x = 196 + 20 ∧ y = 5) → h1 x y = h x y) → (∀ g : Int, 0 ≤ g → g < z 0 2 → h1 (196 + 18) (7 * g + 5) = (sumI (X g) 1 4 * z 1 59 * zlate z).tdiv 1200) → h1 (196 + 20) 5 = sumI (fun g => (sumI (X g) 1 4 * z 1 59 * zlate z).tdiv 1200) 0 (z 0 2).toNat → Q.1 none nN h1) : Cl_ yX9_laysInterest MX9_laysInterest d bc bs [(2, 196)] nN h Q := by
  refine s_enter pn_X9 rfl (Nat.le_of_ble_eq_true rfl) (L := [(2, _), (9, 0), (9, 0), (9, 0), (9, 0), (9, 0), (9, 0)]) rfl ?_
  have hG := M.1
  have I := mr_i M
  have hT := I.2.1
  have hP := I.2.2.1
  have hN := I.2.2.2.1
  have nn := M.2.1
  have e58 := mr_f M 58 (by omega) (by omega)
  rw [pm_h (by omega)] at e58
  have b58 := I.1.2.2.2.2.1
  have ez : zlate z = max 0 (z 1 58 - 12) := rfl
  refine s_aload_n dX9_laysInterest_0 rfl ?_
  refine s_getr dX9_laysInterest_1 fl_X9_7 kl_7 (by decide) rfl io_196 (z := 1) rfl (rf_7_1 hG.1 io_196) (rk_7_1 io_196).1 ?_
  refine s_bipush dX9_laysInterest_4 (by decide) ?_
  refine s_iaload dX9_laysInterest_6 (rk_7_1 io_196) (by omega) (by omega) ?_
  rw [e58]
  refine s_bipush dX9_laysInterest_7 (by decide) ?_
  refine s_icmp_le (tgt := 26) dX9_laysInterest_9 (by decide) (by first | exact hG.2 _ _ | exact b01_in _ | assumption | exact ⟨by omega, by omega⟩) (by first | exact hG.2 _ _ | exact b01_in _ | assumption | exact ⟨by omega, by omega⟩) (fun c1 => ?_) (fun c1 => ?_)
  · refine s_lconstz (z := 0) dX9_laysInterest_26 rfl ?_
    refine s_lstore_n dX9_laysInterest_27 (by decide) rfl (L' := [_, _, _, _, _, _, _]) rfl ?_
    refine s_aload_n dX9_laysInterest_28 rfl ?_
    refine s_getr dX9_laysInterest_29 fl_X9_73 kl_7 (by decide) rfl io_196 (z := 32) rfl (rf_7_32 hG.1 io_196) (rk_7_32 io_196).1 ?_
    refine s_iconst dX9_laysInterest_32 ?_
    refine s_iconst dX9_laysInterest_33 ?_
    refine s_iastoreG dX9_laysInterest_34 (rk_7_32 io_196) (by omega) (by omega) hG (by first | exact hG.2 _ _ | exact b01_in _ | assumption | exact ⟨by omega, by omega⟩) (fun hG1 => ?_)
    refine s_iconst dX9_laysInterest_35 ?_
    refine s_istore_n dX9_laysInterest_36 (by decide) rfl (L' := [_, _, _, _, _, _, _]) rfl ?_
    exact lp_X9_intA (h0 := h) (by omega) M hX k (z 0 2).toNat 0 _ (Int.le_refl _) (by omega) hG1 (fun x y a b => hs_ne _ (by omega)) (fun i i0 i1 => by omega) (by rw [hs_eq]; rfl)
  · refine s_aload_n dX9_laysInterest_12 rfl ?_
    refine s_getr dX9_laysInterest_13 fl_X9_7 kl_7 (by decide) rfl io_196 (z := 1) rfl (rf_7_1 hG.1 io_196) (rk_7_1 io_196).1 ?_
    refine s_bipush dX9_laysInterest_16 (by decide) ?_
    refine s_iaload dX9_laysInterest_18 (rk_7_1 io_196) (by omega) (by omega) ?_
    rw [e58]
    refine s_bipush dX9_laysInterest_19 (by decide) ?_
    refine s_isub dX9_laysInterest_21 ?_
    refine s_i2l dX9_laysInterest_22 (by first | exact hG.2 _ _ | exact b01_in _ | assumption | exact ⟨by omega, by omega⟩) ?_
    refine s_goto (tgt := 27) dX9_laysInterest_23 (by decide) ?_
    refine s_lstore_n dX9_laysInterest_27 (by decide) rfl (L' := [_, _, _, _, _, _, _]) rfl ?_
    refine s_aload_n dX9_laysInterest_28 rfl ?_
    refine s_getr dX9_laysInterest_29 fl_X9_73 kl_7 (by decide) rfl io_196 (z := 32) rfl (rf_7_32 hG.1 io_196) (rk_7_32 io_196).1 ?_
    refine s_iconst dX9_laysInterest_32 ?_
    refine s_iconst dX9_laysInterest_33 ?_
    refine s_iastoreG dX9_laysInterest_34 (rk_7_32 io_196) (by omega) (by omega) hG (by first | exact hG.2 _ _ | exact b01_in _ | assumption | exact ⟨by omega, by omega⟩) (fun hG2 => ?_)
    refine s_iconst dX9_laysInterest_35 ?_
    refine s_istore_n dX9_laysInterest_36 (by decide) rfl (L' := [_, _, _, _, _, _, _]) rfl ?_
    exact lp_X9_intA (h0 := h) (by omega) M hX k (z 0 2).toNat 0 _ (Int.le_refl _) (by omega) hG2 (fun x y a b => hs_ne _ (by omega)) (fun i i0 i1 => by omega) (by rw [hs_eq]; rfl)
end X9G
