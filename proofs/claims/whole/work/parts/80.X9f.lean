/-! the reference: classes paid -/
theorem am_fst {R : Int → Int} : ∀ (m : Nat) (b i : Int), (∀ g : Int, 0 ≤ g → g < b → R g < R b) → (∀ g : Int, b ≤ g → g < i → R g ≤ R b) → ∀ g : Int, 0 ≤ g → g < am_ R b i m → R g < R (am_ R b i m)
  | 0, _, _, h, _ => h
  | m + 1, b, i, h, h2 => by
    rw [am_]
    split
    · rename_i c
      refine am_fst m i (i + 1) (fun g g0 g1 => ?_) (fun g g0 g1 => by rw [show g = i by omega]; exact Int.le_refl _)
      rcases (by omega : g < b ∨ b ≤ g) with q | q
      · have := h g g0 q
        omega
      · have := h2 g q g1
        omega
    · rename_i c
      refine am_fst m b (i + 1) h (fun g g0 g1 => ?_)
      rcases (by omega : g < i ∨ g = i) with q | q
      · exact h2 g g0 q
      · rw [q]
        omega
theorem cn_upd {R : Int → Int} {n : Nat} (h : 0 < R (am_ R 0 1 n)) : cn_ (fun x => if x = am_ R 0 1 n then 0 else R x) n = cn_ R n - 1 := by
  have b := am_rng R n 0 1 (Int.le_refl _) (by omega)
  have e : cn_ (fun x => if x = am_ R 0 1 n then 0 else R x) n = sumI (fun x => if x = am_ R 0 1 n then 0 else (fun g => if 0 < R g then (1 : Int) else 0) x) 0 (n + 1) := by
    unfold cn_
    refine sumI_congr _ _ fun g _ _ => ?_
    dsimp only
    by_cases q : g = am_ R 0 1 n
    · simp [q]
    · simp [q]
  have u := sumI_upd (f := fun g => if 0 < R g then (1 : Int) else 0) (v := 0) (b := am_ R 0 1 n) (n + 1) 0 (by omega) (by omega)
  rw [e, u]
  unfold cn_
  rw [if_pos h]
  omega
/-- the best so far -/
def bst_ (W P : Int → Int) (g b : Int) : Prop := (b = -1 ∧ ∀ i : Int, 0 ≤ i → i < g → ¬ (0 < W i ∧ 0 ≤ P i)) ∨ ((0 ≤ b ∧ b < g) ∧ (0 < W b ∧ 0 ≤ P b) ∧ (∀ i : Int, 0 ≤ i → i < g → 0 < W i ∧ 0 ≤ P i → P i ≤ P b) ∧ ∀ i : Int, 0 ≤ i → i < b → 0 < W i ∧ 0 ≤ P i → P i < P b)
theorem bst_no {W P : Int → Int} {g b : Int} (H : bst_ W P g b) (h : ¬ (0 < W g ∧ 0 ≤ P g) ∨ (¬ b = -1 ∧ P g ≤ P b)) : bst_ W P (g + 1) b := by
  rcases H with ⟨e, f⟩ | ⟨b0, b1, b2, b3⟩
  · refine Or.inl ⟨e, fun i i0 i1 => ?_⟩
    rcases (by omega : i < g ∨ i = g) with q | q
    · exact f i i0 q
    · rw [q]
      rcases h with h | h
      · exact h
      · exact absurd e h.1
  · refine Or.inr ⟨⟨b0.1, by omega⟩, b1, fun i i0 i1 e => ?_, b3⟩
    rcases (by omega : i < g ∨ i = g) with q | q
    · exact b2 i i0 q e
    · rw [q] at e ⊢
      rcases h with h | h
      · exact absurd e h
      · exact h.2
theorem bst_yes {W P : Int → Int} {g b : Int} (H : bst_ W P g b) (g0 : 0 ≤ g) (e : 0 < W g ∧ 0 ≤ P g) (h : b = -1 ∨ P b < P g) : bst_ W P (g + 1) g := by
  refine Or.inr ⟨⟨g0, by omega⟩, e, fun i i0 i1 ei => ?_, fun i i0 i1 ei => ?_⟩
  · rcases (by omega : i < g ∨ i = g) with q | q
    · rcases H with ⟨eb, f⟩ | ⟨b0, b1, b2, b3⟩
      · exact absurd ei (f i i0 q)
      · have := b2 i i0 q ei
        rcases h with h | h
        · omega
        · omega
    · rw [q]
      exact Int.le_refl _
  · rcases H with ⟨eb, f⟩ | ⟨b0, b1, b2, b3⟩
    · exact absurd ei (f i i0 i1)
    · have := b2 i i0 i1 ei
      rcases h with h | h
      · omega
      · omega
theorem bst_am {W P R : Int → Int} {b N : Int} (N1 : 1 ≤ N) (H : bst_ W P N b) (hr : ∀ g : Int, 0 ≤ g → g < N → (P g = R g ∨ (P g = -1 ∧ R g = 0)) ∧ 0 ≤ R g ∧ (0 < R g → 0 < W g)) (h : 0 < R (am_ R 0 1 (N - 1).toNat)) : b = am_ R 0 1 (N - 1).toNat := by
  have a := am_rng R (N - 1).toNat 0 1 (Int.le_refl _) (by omega)
  have al := am_all R (N - 1).toNat
  have fs := am_fst (R := R) (N - 1).toNat 0 1 (fun g g0 g1 => by omega) (fun g g0 g1 => by rw [show g = 0 by omega]; exact Int.le_refl _)
  generalize am_ R 0 1 (N - 1).toNat = x at *
  have hx := hr x a.1 (by omega)
  have ex : 0 < W x ∧ 0 ≤ P x := ⟨hx.2.2 h, by omega⟩
  rcases H with ⟨eb, f⟩ | ⟨b0, b1, b2, b3⟩
  · exact absurd ex (f x a.1 (by omega))
  · have q1 := b2 x a.1 (by omega) ex
    have hb := hr b b0.1 b0.2
    have q2 := al b b0.1 (by omega)
    rcases (by omega : b < x ∨ b = x ∨ x < b) with q | q | q
    · have := fs b b0.1 q
      omega
    · exact q
    · have := b3 x a.1 q ex
      omega
theorem sum0 {W : Int → Int} : ∀ (n : Nat) (a : Int), (∀ i : Int, a ≤ i → i < a + n → 0 ≤ W i) → sumI W a n = 0 → ∀ i : Int, a ≤ i → i < a + n → W i = 0 := fun n a h e i i0 i1 => by
  have := sumI_ge (f := W) n a h i i0 i1
  have := h i i0 i1
  omega
/-- all is there: each gets its own -/
theorem pt_full {W : Int → Int} {n : Int} (hw : ∀ g : Int, 0 ≤ g → g < n → 0 ≤ W g) : ∀ g : Int, 0 ≤ g → g < n → pt_ W n (sumI W 0 n.toNat) g = W g := fun g g0 g1 => by
  have h0 := sumI_nonneg (f := W) n.toNat 0 (fun i i0 i1 => hw i i0 (by omega))
  unfold pt_
  by_cases c : sumI W 0 n.toNat = 0
  · rw [if_pos c, sum0 n.toNat 0 (fun i i0 i1 => hw i i0 (by omega)) c g g0 (by omega)]
  · rw [if_neg c]
    have e : ∀ x : Int, (W x * sumI W 0 n.toNat).tdiv (sumI W 0 n.toNat) = W x := fun x => Int.mul_tdiv_cancel _ c
    have e2 : sumI (fun g => (W g * sumI W 0 n.toNat).tdiv (sumI W 0 n.toNat)) 0 n.toNat = sumI W 0 n.toNat := sumI_congr _ _ (fun i _ _ => e i)
    rw [e2, show (sumI W 0 n.toNat - sumI W 0 n.toNat).toNat = 0 by omega, lr_]
    exact e g
section X9F
variable {d bc bs : Nat} {Q : PQ} {h h0 z : PH}
set_option maxRecDepth 100000 in
set_option maxHeartbeats 4000000 in
theorem lp_X9_partA {W : Int → Int} {m0 : Int} (M : MR_ h z) (hW : ∀ g : Int, 0 ≤ g → g < z 0 2 → h (196 + 23) g = W g ∧ 0 ≤ W g ∧ W g ≤ 1000000) (K : ∀ g : Int, S_ MX9_parted d bc bs Q 30 [(2, 196), (0, m0), (1, sumI W 0 (z 0 2).toNat), (9, 0), (0, g), (9, 0), (9, 0)] [] nN h) : ∀ (m : Nat) (g w : Int), (0 ≤ g) → (g + m = z 0 2) → (w = sumI W 0 g.toNat) → S_ MX9_parted d bc bs Q 5 [(2, 196), (0, m0), (1, w), (9, 0), (0, g), (9, 0), (9, 0)] [] nN h := by
  intro m
  induction m with
  | zero =>
    intro g w g0 gm hw
    have hG := M.1
    have I := mr_i M
    have hT := I.2.1
    have hP := I.2.2.1
    have hN := I.2.2.2.1
    have nn := M.2.1
    refine s_iload dX9_parted_5 rfl ?_
    refine s_aload_n dX9_parted_7 rfl ?_
    refine s_geti dX9_parted_8 fl_X9_275 kl_7 (by decide) rfl io_196 (z := 7) rfl ?_
    refine s_icmp_ge (tgt := 30) dX9_parted_11 (by decide) (by first | exact hG.2 _ _ | exact b01_in _ | assumption | exact ⟨by omega, by omega⟩) (by first | exact hG.2 _ _ | exact b01_in _ | assumption | exact ⟨by omega, by omega⟩) (fun c1 => ?_) (fun c1 => ?_)
    · have e9 : w = sumI W 0 (z 0 2).toNat := by rw [hw, show g = z 0 2 by omega]
      rw [e9]
      exact K g
    · exact absurd c1 (by omega)
  | succ m ih =>
    intro g w g0 gm hw
    have hG := M.1
    have I := mr_i M
    have hT := I.2.1
    have hP := I.2.2.1
    have hN := I.2.2.2.1
    have nn := M.2.1
    refine s_iload dX9_parted_5 rfl ?_
    refine s_aload_n dX9_parted_7 rfl ?_
    refine s_geti dX9_parted_8 fl_X9_275 kl_7 (by decide) rfl io_196 (z := 7) rfl ?_
    refine s_icmp_ge (tgt := 30) dX9_parted_11 (by decide) (by first | exact hG.2 _ _ | exact b01_in _ | assumption | exact ⟨by omega, by omega⟩) (by first | exact hG.2 _ _ | exact b01_in _ | assumption | exact ⟨by omega, by omega⟩) (fun c1 => ?_) (fun c1 => ?_)
    · exact absurd c1 (by omega)
    · refine s_lload_n dX9_parted_14 rfl ?_
      refine s_aload_n dX9_parted_15 rfl ?_
      refine s_getr dX9_parted_16 fl_X9_83 kl_7 (by decide) rfl io_196 (z := 39) rfl (rf_7_39 hG.1 io_196) (rk_7_39 io_196).1 ?_
      refine s_iload dX9_parted_19 rfl ?_
      refine s_laload dX9_parted_21 (rk_7_39 io_196) (by omega) (by omega) ?_
      refine s_ladd dX9_parted_22 ?_
      refine s_lstore_n dX9_parted_23 (by decide) rfl (L' := [_, _, _, _, _, _, _]) rfl ?_
      refine s_iinc dX9_parted_24 rfl (by decide) rfl (L' := [_, _, _, _, _, _, _]) rfl ?_
      refine s_goto (tgt := 5) dX9_parted_27 (by decide) ?_
      exact ih (g + 1) _ (by omega) (by omega) (by rw [sumI_up _ g0, ← hw, (hW g g0 (by omega)).1])
set_option maxRecDepth 100000 in
set_option maxHeartbeats 4000000 in
theorem lp_X9_partB {W : Int → Int} {m0 : Int} (M0 : MR_ h0 z) (hW : ∀ g : Int, 0 ≤ g → g < z 0 2 → h0 (196 + 23) g = W g ∧ 0 ≤ W g ∧ W g ≤ 1000000) (b0 : 0 ≤ m0) (b1 : m0 ≤ 1000000) (ha : 0 < sumI W 0 (z 0 2).toNat) (K : ∀ h : PH, G h → (∀ x y : Int, ¬ x = 196 + 22 → ¬ x = 196 + 24 → h x y = h0 x y) → (∀ g : Int, 0 ≤ g → g < z 0 2 → h (196 + 24) g = (W g * m0).tdiv (sumI W 0 (z 0 2).toNat) ∧ h (196 + 22) g = (W g * m0).tmod (sumI W 0 (z 0 2).toNat)) → ∀ g : Int, S_ MX9_parted d bc bs Q 102 [(2, 196), (0, m0), (1, sumI W 0 (z 0 2).toNat), (9, 0), (0, m0 - sumI (fun g => (W g * m0).tdiv (sumI W 0 (z 0 2).toNat)) 0 (z 0 2).toNat), (0, g), (9, 0)] [] nN h) : ∀ (m : Nat) (g w : Int) (h : PH), (0 ≤ g) → (g + m = z 0 2) → (w = m0 - sumI (fun g => (W g * m0).tdiv (sumI W 0 (z 0 2).toNat)) 0 g.toNat) → (G h) → (∀ x y : Int, ¬ x = 196 + 22 → ¬ x = 196 + 24 → h x y = h0 x y) → (∀ i : Int, 0 ≤ i → i < g → h (196 + 24) i = (W i * m0).tdiv (sumI W 0 (z 0 2).toNat) ∧ h (196 + 22) i = (W i * m0).tmod (sumI W 0 (z 0 2).toNat)) → S_ MX9_parted d bc bs Q 36 [(2, 196), (0, m0), (1, sumI W 0 (z 0 2).toNat), (9, 0), (0, w), (0, g), (9, 0)] [] nN h := by
  intro m
  induction m with
  | zero =>
    intro g w h g0 gm hw gG fr H
    have hG := gG
    have M := sc_M M0 gG (fun x y a _ => fr x y (by omega) (by omega))
    have I := mr_i M
    have hT := I.2.1
    have hP := I.2.2.1
    have hN := I.2.2.2.1
    have nn := M.2.1
    have sb := sumI_le (f := W) (b := 1000000) (z 0 2).toNat 0 (fun i i0 i1 => (hW i i0 (by omega)).2.2)
    refine s_iload dX9_parted_36 rfl ?_
    refine s_aload_n dX9_parted_38 rfl ?_
    refine s_geti dX9_parted_39 fl_X9_275 kl_7 (by decide) rfl io_196 (z := 7) rfl ?_
    refine s_icmp_ge (tgt := 102) dX9_parted_42 (by decide) (by first | exact hG.2 _ _ | exact b01_in _ | assumption | exact ⟨by omega, by omega⟩) (by first | exact hG.2 _ _ | exact b01_in _ | assumption | exact ⟨by omega, by omega⟩) (fun c1 => ?_) (fun c1 => ?_)
    · have e9 : w = m0 - sumI (fun g => (W g * m0).tdiv (sumI W 0 (z 0 2).toNat)) 0 (z 0 2).toNat := by rw [hw, show g = z 0 2 by omega]
      rw [e9]
      exact K h gG fr (fun i i0 i1 => H i i0 (by omega)) g
    · exact absurd c1 (by omega)
  | succ m ih =>
    intro g w h g0 gm hw gG fr H
    have hG := gG
    have M := sc_M M0 gG (fun x y a _ => fr x y (by omega) (by omega))
    have I := mr_i M
    have hT := I.2.1
    have hP := I.2.2.1
    have hN := I.2.2.2.1
    have nn := M.2.1
    have sb := sumI_le (f := W) (b := 1000000) (z 0 2).toNat 0 (fun i i0 i1 => (hW i i0 (by omega)).2.2)
    refine s_iload dX9_parted_36 rfl ?_
    refine s_aload_n dX9_parted_38 rfl ?_
    refine s_geti dX9_parted_39 fl_X9_275 kl_7 (by decide) rfl io_196 (z := 7) rfl ?_
    refine s_icmp_ge (tgt := 102) dX9_parted_42 (by decide) (by first | exact hG.2 _ _ | exact b01_in _ | assumption | exact ⟨by omega, by omega⟩) (by first | exact hG.2 _ _ | exact b01_in _ | assumption | exact ⟨by omega, by omega⟩) (fun c1 => ?_) (fun c1 => ?_)
    · exact absurd c1 (by omega)
    · refine s_aload_n dX9_parted_45 rfl ?_
      refine s_getr dX9_parted_46 fl_X9_86 kl_7 (by decide) rfl io_196 (z := 40) rfl (rf_7_40 hG.1 io_196) (rk_7_40 io_196).1 ?_
      refine s_iload dX9_parted_49 rfl ?_
      refine s_aload_n dX9_parted_51 rfl ?_
      refine s_getr dX9_parted_52 fl_X9_83 kl_7 (by decide) rfl io_196 (z := 39) rfl (rf_7_39 hG.1 io_196) (rk_7_39 io_196).1 ?_
      refine s_iload dX9_parted_55 rfl ?_
      have wg := hW g g0 (by omega)
      have xm := xm_ wg.2.1 wg.2.2 b0 b1
      have sg := sumI_ge (f := W) (z 0 2).toNat 0 (fun i i0 i1 => (hW i i0 (by omega)).2.1) g g0 (by omega)
      have qb := gb_ wg.2.1 sg b0 ha
      have rb := rb_ (x := W g) (m := m0) wg.2.1 b0 ha
      refine s_laload dX9_parted_57 (rk_7_39 io_196) (by omega) (by omega) ?_
      rw [fr _ _ (by omega) (by omega), wg.1]
      refine s_iload_n dX9_parted_58 rfl ?_
      refine s_i2l dX9_parted_59 (by first | exact hG.2 _ _ | exact b01_in _ | assumption | exact ⟨by omega, by omega⟩) ?_
      refine s_lmul dX9_parted_60 ?_
      refine s_lload_n dX9_parted_61 rfl ?_
      refine s_ldiv dX9_parted_62 (by first | assumption | exact inI_L (by first | exact hG.2 _ _ | exact b01_in _ | assumption | exact ⟨by omega, by omega⟩) | exact ⟨by omega, by omega⟩) (by first | assumption | exact inI_L (by first | exact hG.2 _ _ | exact b01_in _ | assumption | exact ⟨by omega, by omega⟩) | exact ⟨by omega, by omega⟩) (by omega) (by omega) ?_
      refine s_l2i dX9_parted_63 ?_
      refine s_iastoreG dX9_parted_64 (rk_7_40 io_196) (by omega) (by omega) hG (by first | exact hG.2 _ _ | exact b01_in _ | assumption | exact ⟨by omega, by omega⟩) (fun hG1 => ?_)
      refine s_aload_n dX9_parted_65 rfl ?_
      refine s_getr dX9_parted_66 fl_X9_79 kl_7 (by decide) rfl io_196 (z := 38) rfl (rf_7_38 hG1.1 io_196) (rk_7_38 io_196).1 ?_
      refine s_iload dX9_parted_69 rfl ?_
      refine s_aload_n dX9_parted_71 rfl ?_
      refine s_getr dX9_parted_72 fl_X9_83 kl_7 (by decide) rfl io_196 (z := 39) rfl (rf_7_39 hG1.1 io_196) (rk_7_39 io_196).1 ?_
      refine s_iload dX9_parted_75 rfl ?_
      refine s_laload dX9_parted_77 (rk_7_39 io_196) (by omega) (by omega) ?_
      rw [hs_ne _ (by omega), fr _ _ (by omega) (by omega), wg.1]
      refine s_iload_n dX9_parted_78 rfl ?_
      refine s_i2l dX9_parted_79 (by first | exact hG1.2 _ _ | exact hG.2 _ _ | exact b01_in _ | assumption | exact ⟨by omega, by omega⟩) ?_
      refine s_lmul dX9_parted_80 ?_
      refine s_lload_n dX9_parted_81 rfl ?_
      refine s_lrem dX9_parted_82 (by first | assumption | exact inI_L (by first | exact hG1.2 _ _ | exact hG.2 _ _ | exact b01_in _ | assumption | exact ⟨by omega, by omega⟩) | exact ⟨by omega, by omega⟩) (by first | assumption | exact inI_L (by first | exact hG1.2 _ _ | exact hG.2 _ _ | exact b01_in _ | assumption | exact ⟨by omega, by omega⟩) | exact ⟨by omega, by omega⟩) (by omega) (by omega) ?_
      refine s_lastoreG dX9_parted_83 (rk_7_38 io_196) (by omega) (by omega) hG1 (by first | exact hG1.2 _ _ | exact hG.2 _ _ | exact b01_in _ | assumption | exact ⟨by omega, by omega⟩) (fun hG2 => ?_)
      refine s_iload dX9_parted_84 rfl ?_
      refine s_aload_n dX9_parted_86 rfl ?_
      refine s_getr dX9_parted_87 fl_X9_86 kl_7 (by decide) rfl io_196 (z := 40) rfl (rf_7_40 hG2.1 io_196) (rk_7_40 io_196).1 ?_
      refine s_iload dX9_parted_90 rfl ?_
      refine s_iaload dX9_parted_92 (rk_7_40 io_196) (by omega) (by omega) ?_
      rw [hs_ne _ (by omega), hs_eq]
      refine s_isub dX9_parted_93 ?_
      refine s_istore dX9_parted_94 (by decide) rfl (L' := [_, _, _, _, _, _, _]) rfl ?_
      refine s_iinc dX9_parted_96 rfl (by decide) rfl (L' := [_, _, _, _, _, _, _]) rfl ?_
      refine s_goto (tgt := 36) dX9_parted_99 (by decide) ?_
      refine ih (g + 1) _ _ (by omega) (by omega) (by rw [sumI_up _ g0, hw]; omega) hG2 (fun x y a b => by rw [hs_ne _ (by omega), hs_ne _ (by omega)]; exact fr x y a b) (fun i i0 i1 => ?_)
      by_cases c : i = g
      · rw [c, hs_ne _ (by omega), hs_eq, hs_eq]
        exact ⟨rfl, rfl⟩
      · rw [hs_ne _ (by omega), hs_ne _ (by omega), hs_ne _ (by omega), hs_ne _ (by omega)]
        exact H i i0 (by omega)
set_option maxRecDepth 100000 in
set_option maxHeartbeats 4000000 in
theorem lp_X9_partD {W : Int → Int} {m0 a9 l9 : Int} (hG : G h) (hn : h 196 7 = z 0 2) (hN : 0 ≤ z 0 2 ∧ z 0 2 ≤ 12) (hW : ∀ g : Int, 0 ≤ g → g < z 0 2 → h (196 + 23) g = W g ∧ 0 ≤ W g ∧ W g ≤ 1000000) (K : ∀ b g : Int, bst_ W (h (196 + 22)) (z 0 2) b → S_ MX9_parted d bc bs Q 185 [(2, 196), (0, m0), (1, a9), (9, 0), (0, l9), (0, b), (0, g)] [] nN h) : ∀ (m : Nat) (g b : Int), (0 ≤ g) → (g + m = z 0 2) → (bst_ W (h (196 + 22)) g b) → S_ MX9_parted d bc bs Q 113 [(2, 196), (0, m0), (1, a9), (9, 0), (0, l9), (0, b), (0, g)] [] nN h := by
  intro m
  induction m with
  | zero =>
    intro g b g0 gm H
    have wg : g < z 0 2 → h (196 + 23) g = W g ∧ 0 ≤ W g ∧ W g ≤ 1000000 := hW g g0
    have bb : b = -1 ∨ (0 ≤ b ∧ b < g) := H.imp (fun q => q.1) (fun q => q.1)
    refine s_iload dX9_parted_113 rfl ?_
    refine s_aload_n dX9_parted_115 rfl ?_
    refine s_geti dX9_parted_116 fl_X9_275 kl_7 (by decide) rfl io_196 (z := 7) rfl ?_
    refine s_icmp_ge (tgt := 185) dX9_parted_119 (by decide) (by first | exact hG.2 _ _ | exact b01_in _ | assumption | exact ⟨by omega, by omega⟩) (by first | exact hG.2 _ _ | exact b01_in _ | assumption | exact ⟨by omega, by omega⟩) (fun c1 => ?_) (fun c1 => ?_)
    · rw [show g = z 0 2 by omega] at H
      exact K b g H
    · exact absurd c1 (by omega)
  | succ m ih =>
    intro g b g0 gm H
    have wg : g < z 0 2 → h (196 + 23) g = W g ∧ 0 ≤ W g ∧ W g ≤ 1000000 := hW g g0
    have bb : b = -1 ∨ (0 ≤ b ∧ b < g) := H.imp (fun q => q.1) (fun q => q.1)
    refine s_iload dX9_parted_113 rfl ?_
    refine s_aload_n dX9_parted_115 rfl ?_
    refine s_geti dX9_parted_116 fl_X9_275 kl_7 (by decide) rfl io_196 (z := 7) rfl ?_
    refine s_icmp_ge (tgt := 185) dX9_parted_119 (by decide) (by first | exact hG.2 _ _ | exact b01_in _ | assumption | exact ⟨by omega, by omega⟩) (by first | exact hG.2 _ _ | exact b01_in _ | assumption | exact ⟨by omega, by omega⟩) (fun c1 => ?_) (fun c1 => ?_)
    · exact absurd c1 (by omega)
    · refine s_aload_n dX9_parted_122 rfl ?_
      refine s_getr dX9_parted_123 fl_X9_83 kl_7 (by decide) rfl io_196 (z := 39) rfl (rf_7_39 hG.1 io_196) (rk_7_39 io_196).1 ?_
      refine s_iload dX9_parted_126 rfl ?_
      refine s_laload dX9_parted_128 (rk_7_39 io_196) (by omega) (by omega) ?_
      refine s_lconstz (z := 0) dX9_parted_129 rfl ?_
      refine s_lcmp_le (tgt := 175) dX9_parted_130 dX9_parted_131 (by decide) (by first | assumption | exact inI_L (by first | exact hG.2 _ _ | exact b01_in _ | assumption | exact ⟨by omega, by omega⟩) | exact ⟨by omega, by omega⟩) (by first | assumption | exact inI_L (by first | exact hG.2 _ _ | exact b01_in _ | assumption | exact ⟨by omega, by omega⟩) | exact ⟨by omega, by omega⟩) (fun c2 => ?_) (fun c2 => ?_)
      · refine s_iload dX9_parted_175 rfl ?_
        refine s_istore dX9_parted_177 (by decide) rfl (L' := [_, _, _, _, _, _, _]) rfl ?_
        refine s_iinc dX9_parted_179 rfl (by decide) rfl (L' := [_, _, _, _, _, _, _]) rfl ?_
        refine s_goto (tgt := 113) dX9_parted_182 (by decide) ?_
        first
          | exact ih (g + 1) _ (by omega) (by omega) (bst_no H (Or.inl (fun q => by omega)))
          | exact ih (g + 1) _ (by omega) (by omega) (bst_yes H g0 ⟨by omega, by omega⟩ (by omega))
          | exact ih (g + 1) _ (by omega) (by omega) (bst_no H (Or.inr ⟨by omega, by omega⟩))
      · refine s_aload_n dX9_parted_134 rfl ?_
        refine s_getr dX9_parted_135 fl_X9_79 kl_7 (by decide) rfl io_196 (z := 38) rfl (rf_7_38 hG.1 io_196) (rk_7_38 io_196).1 ?_
        refine s_iload dX9_parted_138 rfl ?_
        refine s_laload dX9_parted_140 (rk_7_38 io_196) (by omega) (by omega) ?_
        refine s_lconstz (z := 0) dX9_parted_141 rfl ?_
        refine s_lcmp_lt (tgt := 175) dX9_parted_142 dX9_parted_143 (by decide) (by first | assumption | exact inI_L (by first | exact hG.2 _ _ | exact b01_in _ | assumption | exact ⟨by omega, by omega⟩) | exact ⟨by omega, by omega⟩) (by first | assumption | exact inI_L (by first | exact hG.2 _ _ | exact b01_in _ | assumption | exact ⟨by omega, by omega⟩) | exact ⟨by omega, by omega⟩) (fun c3 => ?_) (fun c3 => ?_)
        · refine s_iload dX9_parted_175 rfl ?_
          refine s_istore dX9_parted_177 (by decide) rfl (L' := [_, _, _, _, _, _, _]) rfl ?_
          refine s_iinc dX9_parted_179 rfl (by decide) rfl (L' := [_, _, _, _, _, _, _]) rfl ?_
          refine s_goto (tgt := 113) dX9_parted_182 (by decide) ?_
          first
            | exact ih (g + 1) _ (by omega) (by omega) (bst_no H (Or.inl (fun q => by omega)))
            | exact ih (g + 1) _ (by omega) (by omega) (bst_yes H g0 ⟨by omega, by omega⟩ (by omega))
            | exact ih (g + 1) _ (by omega) (by omega) (bst_no H (Or.inr ⟨by omega, by omega⟩))
        · refine s_iload dX9_parted_146 rfl ?_
          refine s_iconst dX9_parted_148 ?_
          refine s_icmp_eq (tgt := 170) dX9_parted_149 (by decide) (by first | exact hG.2 _ _ | exact b01_in _ | assumption | exact ⟨by omega, by omega⟩) (by first | exact hG.2 _ _ | exact b01_in _ | assumption | exact ⟨by omega, by omega⟩) (fun c4 => ?_) (fun c4 => ?_)
          · refine s_iload dX9_parted_170 rfl ?_
            refine s_goto (tgt := 177) dX9_parted_172 (by decide) ?_
            refine s_istore dX9_parted_177 (by decide) rfl (L' := [_, _, _, _, _, _, _]) rfl ?_
            refine s_iinc dX9_parted_179 rfl (by decide) rfl (L' := [_, _, _, _, _, _, _]) rfl ?_
            refine s_goto (tgt := 113) dX9_parted_182 (by decide) ?_
            first
              | exact ih (g + 1) _ (by omega) (by omega) (bst_no H (Or.inl (fun q => by omega)))
              | exact ih (g + 1) _ (by omega) (by omega) (bst_yes H g0 ⟨by omega, by omega⟩ (by omega))
              | exact ih (g + 1) _ (by omega) (by omega) (bst_no H (Or.inr ⟨by omega, by omega⟩))
          · refine s_aload_n dX9_parted_152 rfl ?_
            refine s_getr dX9_parted_153 fl_X9_79 kl_7 (by decide) rfl io_196 (z := 38) rfl (rf_7_38 hG.1 io_196) (rk_7_38 io_196).1 ?_
            refine s_iload dX9_parted_156 rfl ?_
            refine s_laload dX9_parted_158 (rk_7_38 io_196) (by omega) (by omega) ?_
            refine s_aload_n dX9_parted_159 rfl ?_
            refine s_getr dX9_parted_160 fl_X9_79 kl_7 (by decide) rfl io_196 (z := 38) rfl (rf_7_38 hG.1 io_196) (rk_7_38 io_196).1 ?_
            refine s_iload dX9_parted_163 rfl ?_
            refine s_laload dX9_parted_165 (rk_7_38 io_196) (by omega) (by omega) ?_
            refine s_lcmp_le (tgt := 175) dX9_parted_166 dX9_parted_167 (by decide) (by first | assumption | exact inI_L (by first | exact hG.2 _ _ | exact b01_in _ | assumption | exact ⟨by omega, by omega⟩) | exact ⟨by omega, by omega⟩) (by first | assumption | exact inI_L (by first | exact hG.2 _ _ | exact b01_in _ | assumption | exact ⟨by omega, by omega⟩) | exact ⟨by omega, by omega⟩) (fun c5 => ?_) (fun c5 => ?_)
            · refine s_iload dX9_parted_175 rfl ?_
              refine s_istore dX9_parted_177 (by decide) rfl (L' := [_, _, _, _, _, _, _]) rfl ?_
              refine s_iinc dX9_parted_179 rfl (by decide) rfl (L' := [_, _, _, _, _, _, _]) rfl ?_
              refine s_goto (tgt := 113) dX9_parted_182 (by decide) ?_
              first
                | exact ih (g + 1) _ (by omega) (by omega) (bst_no H (Or.inl (fun q => by omega)))
                | exact ih (g + 1) _ (by omega) (by omega) (bst_yes H g0 ⟨by omega, by omega⟩ (by omega))
                | exact ih (g + 1) _ (by omega) (by omega) (bst_no H (Or.inr ⟨by omega, by omega⟩))
            · refine s_iload dX9_parted_170 rfl ?_
              refine s_goto (tgt := 177) dX9_parted_172 (by decide) ?_
              refine s_istore dX9_parted_177 (by decide) rfl (L' := [_, _, _, _, _, _, _]) rfl ?_
              refine s_iinc dX9_parted_179 rfl (by decide) rfl (L' := [_, _, _, _, _, _, _]) rfl ?_
              refine s_goto (tgt := 113) dX9_parted_182 (by decide) ?_
              first
                | exact ih (g + 1) _ (by omega) (by omega) (bst_no H (Or.inl (fun q => by omega)))
                | exact ih (g + 1) _ (by omega) (by omega) (bst_yes H g0 ⟨by omega, by omega⟩ (by omega))
                | exact ih (g + 1) _ (by omega) (by omega) (bst_no H (Or.inr ⟨by omega, by omega⟩))
set_option maxRecDepth 100000 in
set_option maxHeartbeats 4000000 in
theorem lp_X9_partC {W X : Int → Int} {m0 a9 : Int} (M0 : MR_ h0 z) (hW : ∀ g : Int, 0 ≤ g → g < z 0 2 → h0 (196 + 23) g = W g ∧ 0 ≤ W g ∧ W g ≤ 1000000) (N1 : 1 ≤ z 0 2) (hX : ∀ g : Int, 0 ≤ g → g < z 0 2 → X g ≤ 1000000) (k : ∀ h : PH, G h → (∀ x y : Int, ¬ x = 196 + 22 → ¬ x = 196 + 24 → h x y = h0 x y) → (∀ g : Int, 0 ≤ g → g < z 0 2 → h (196 + 24) g = X g) → Q.1 none nN h) : ∀ (m : Nat) (R P : Int → Int) (h : PH), (G h) → (∀ x y : Int, ¬ x = 196 + 22 → ¬ x = 196 + 24 → h x y = h0 x y) → (∀ g : Int, 0 ≤ g → g < z 0 2 → h (196 + 24) g = P g ∧ 0 ≤ P g) → (∀ g : Int, 0 ≤ g → g < z 0 2 → (h (196 + 22) g = R g ∨ (h (196 + 22) g = -1 ∧ R g = 0)) ∧ 0 ≤ R g ∧ (0 < R g → 0 < W g)) → ((m : Int) ≤ cn_ R (z 0 2 - 1).toNat) → (∀ g : Int, 0 ≤ g → g < z 0 2 → lr_ (z 0 2 - 1).toNat m P R g = X g) → S_ MX9_parted d bc bs Q 102 [(2, 196), (0, m0), (1, a9), (9, 0), (0, (m : Int)), (9, 0), (9, 0)] [] nN h := by
  intro m
  induction m with
  | zero =>
    intro R P h gG fr hP hR hc hl
    have hG := gG
    have M := sc_M M0 gG (fun x y a _ => fr x y (by omega) (by omega))
    have I := mr_i M
    have hT := I.2.1
    have hPP := I.2.2.1
    have hN := I.2.2.2.1
    have nn := M.2.1
    have cb : cn_ R (z 0 2 - 1).toNat ≤ 12 := by
      have w := sumI_le (f := fun g => if 0 < R g then (1 : Int) else 0) (b := 1) ((z 0 2 - 1).toNat + 1) 0 (fun i _ _ => by split <;> omega)
      unfold cn_
      omega
    refine s_iload dX9_parted_102 rfl ?_
    refine s_if_le (tgt := 212) dX9_parted_104 (by decide) (by first | exact hG.2 _ _ | exact b01_in _ | assumption | exact ⟨by omega, by omega⟩) (fun c1 => ?_) (fun c1 => ?_)
    · exact s_return dX9_parted_212 rfl (k h gG fr (fun g g0 g1 => by rw [(hP g g0 g1).1, ← hl g g0 g1]; rfl))
    · exact absurd c1 (by omega)
  | succ m ih =>
    intro R P h gG fr hP hR hc hl
    have hG := gG
    have M := sc_M M0 gG (fun x y a _ => fr x y (by omega) (by omega))
    have I := mr_i M
    have hT := I.2.1
    have hPP := I.2.2.1
    have hN := I.2.2.2.1
    have nn := M.2.1
    have cb : cn_ R (z 0 2 - 1).toNat ≤ 12 := by
      have w := sumI_le (f := fun g => if 0 < R g then (1 : Int) else 0) (b := 1) ((z 0 2 - 1).toNat + 1) 0 (fun i _ _ => by split <;> omega)
      unfold cn_
      omega
    refine s_iload dX9_parted_102 rfl ?_
    refine s_if_le (tgt := 212) dX9_parted_104 (by decide) (by first | exact hG.2 _ _ | exact b01_in _ | assumption | exact ⟨by omega, by omega⟩) (fun c1 => ?_) (fun c1 => ?_)
    · exact absurd c1 (by omega)
    · refine s_iconst dX9_parted_107 ?_
      refine s_istore dX9_parted_108 (by decide) rfl (L' := [_, _, _, _, _, _, _]) rfl ?_
      refine s_iconst dX9_parted_110 ?_
      refine s_istore dX9_parted_111 (by decide) rfl (L' := [_, _, _, _, _, _, _]) rfl ?_
      have hpos := cn_pos (R := R) (n := (z 0 2 - 1).toNat) (by omega)
      refine lp_X9_partD (W := W) hG nn.2.2 hN (fun g g0 g1 => by rw [fr _ _ (by omega) (by omega)]; exact hW g g0 g1) (fun b g B => ?_) (z 0 2).toNat 0 (-1) (Int.le_refl _) (by omega) (Or.inl ⟨rfl, fun i i0 i1 => by omega⟩)
      have eb := bst_am N1 B hR hpos
      have ar := am_rng R (z 0 2 - 1).toNat 0 1 (Int.le_refl _) (by omega)
      rw [← eb] at ar hpos
      have le := lr_le (m + 1) P R (by omega) b ar.1 (by omega)
      rw [hl b ar.1 (by omega)] at le
      have xb := hX b ar.1 (by omega)
      have pb := hP b ar.1 (by omega)
      refine s_aload_n dX9_parted_185 rfl ?_
      refine s_getr dX9_parted_186 fl_X9_86 kl_7 (by decide) rfl io_196 (z := 40) rfl (rf_7_40 hG.1 io_196) (rk_7_40 io_196).1 ?_
      refine s_iload dX9_parted_189 rfl ?_
      refine s_dup2 dX9_parted_191 rfl rfl ?_
      refine s_iaload dX9_parted_192 (rk_7_40 io_196) (by omega) (by omega) ?_
      refine s_iconst dX9_parted_193 ?_
      refine s_iadd dX9_parted_194 ?_
      refine s_iastoreG dX9_parted_195 (rk_7_40 io_196) (by omega) (by omega) hG (by first | exact hG.2 _ _ | exact b01_in _ | assumption | exact ⟨by omega, by omega⟩) (fun hG1 => ?_)
      refine s_aload_n dX9_parted_196 rfl ?_
      refine s_getr dX9_parted_197 fl_X9_79 kl_7 (by decide) rfl io_196 (z := 38) rfl (rf_7_38 hG1.1 io_196) (rk_7_38 io_196).1 ?_
      refine s_iload dX9_parted_200 rfl ?_
      refine s_ldc2 dX9_parted_202 kc_X9_363 ?_
      refine s_lastoreG dX9_parted_205 (rk_7_38 io_196) (by omega) (by omega) hG1 (by first | exact hG1.2 _ _ | exact hG.2 _ _ | exact b01_in _ | assumption | exact ⟨by omega, by omega⟩) (fun hG2 => ?_)
      refine s_iinc dX9_parted_206 rfl (by decide) rfl (L' := [_, _, _, _, _, _, _]) rfl ?_
      refine s_goto (tgt := 102) dX9_parted_209 (by decide) ?_
      rw [show (((m + 1 : Nat) : Int) + -1) = (m : Int) by omega]
      refine s_fg (L' := [(2, 196), (0, m0), (1, a9), (9, 0), (0, (m : Int)), (9, 0), (9, 0)]) ⟨Or.inr rfl, Or.inr rfl, Or.inr rfl, Or.inr rfl, Or.inr rfl, Or.inl rfl, Or.inl rfl, trivial⟩ ?_
      refine ih (fun x => if x = b then 0 else R x) (fun x => if x = b then P x + 1 else P x) _ hG2 (fun x y p q => by rw [hs_ne _ (by omega), hs_ne _ (by omega)]; exact fr x y p q) (fun g g0 g1 => ?_) (fun g g0 g1 => ?_) ?_ (fun g g0 g1 => ?_)
      · rw [hs_ne _ (by omega)]
        try dsimp only
        by_cases q : g = b
        · rw [if_pos q, q, hs_eq, pb.1]
          omega
        · rw [if_neg q, hs_ne _ (by omega)]
          exact hP g g0 g1
      · try dsimp only
        by_cases q : g = b
        · rw [if_pos q, q, hs_eq]
          exact ⟨Or.inr ⟨rfl, rfl⟩, Int.le_refl _, fun w => absurd w (by omega)⟩
        · rw [if_neg q, hs_ne _ (by omega), hs_ne _ (by omega)]
          exact hR g g0 g1
      · rw [eb, cn_upd (by rw [← eb]; exact hpos)]
        omega
      · rw [← hl g g0 g1, lr_, ← eb]
set_option maxRecDepth 100000 in
set_option maxHeartbeats 4000000 in
theorem c_X9_parted {W : Int → Int} {m : Int} (M : MR_ h z) (hW : ∀ g : Int, 0 ≤ g → g < z 0 2 → h (196 + 23) g = W g ∧ 0 ≤ W g ∧ W g ≤ 1000000) (m0 : 0 ≤ m) (m1 : m ≤ 1000000) (ha : 0 < sumI W 0 (z 0 2).toNat) (k : ∀ h1 : PH, G h1 → (∀ x y : Int, ¬ x = 196 + 22 → ¬ x = 196 + 24 → h1 x y = h x y) → (∀ g : Int, 0 ≤ g → g < z 0 2 → h1 (196 + 24) g = pt_ W (z 0 2) m g) → Q.1 none nN h1) : Cl_ yX9_parted MX9_parted d bc bs [(2, 196), (0, m)] nN h Q := by
  refine s_enter pn_X9 rfl (Nat.le_of_ble_eq_true rfl) (L := [(2, _), (0, _), (9, 0), (9, 0), (9, 0), (9, 0), (9, 0)]) rfl ?_
  have hG := M.1
  have I := mr_i M
  have hT := I.2.1
  have hP := I.2.2.1
  have hN := I.2.2.2.1
  have nn := M.2.1
  refine s_lconstz (z := 0) dX9_parted_0 rfl ?_
  refine s_lstore_n dX9_parted_1 (by decide) rfl (L' := [_, _, _, _, _, _, _]) rfl ?_
  refine s_iconst dX9_parted_2 ?_
  refine s_istore dX9_parted_3 (by decide) rfl (L' := [_, _, _, _, _, _, _]) rfl ?_
  refine lp_X9_partA M hW (fun g9 => ?_) (z 0 2).toNat 0 0 (by omega) (by omega) rfl
  refine s_iload_n dX9_parted_30 rfl ?_
  refine s_istore dX9_parted_31 (by decide) rfl (L' := [_, _, _, _, _, _, _]) rfl ?_
  refine s_iconst dX9_parted_33 ?_
  refine s_istore dX9_parted_34 (by decide) rfl (L' := [_, _, _, _, _, _, _]) rfl ?_
  have N1 : 1 ≤ z 0 2 := Classical.byContradiction fun q => by rw [show (z 0 2).toNat = 0 by omega] at ha; exact absurd ha (by rw [sumI]; omega)
  refine lp_X9_partB M hW m0 m1 ha (fun hB gB fB eB kB => ?_) (z 0 2).toNat 0 m h (by omega) (by omega) (by rw [show (0 : Int).toNat = 0 from rfl, sumI]; omega) hG (fun _ _ _ _ => rfl) (fun i i0 i1 => by omega)
  have ov := pt_over N1 (fun g a b => (hW g a b).2.1) m0 ha
  have ml : sumI (fun g => (W g * m).tdiv (sumI W 0 (z 0 2).toNat)) 0 (z 0 2).toNat ≤ m := by
    have e2 : sumI (fun g => (W g * m).tdiv (sumI W 0 (z 0 2).toNat) * sumI W 0 (z 0 2).toNat) 0 (z 0 2).toNat ≤ sumI (fun g => W g * m) 0 (z 0 2).toNat := sumI_mono _ _ (fun i i0 i1 => by
      have q := Int.tdiv_mul_self (W i * m) (sumI W 0 (z 0 2).toNat)
      have r := (rb_ (hW i i0 (by omega)).2.1 m0 ha).1
      omega)
    rw [sumI_mul, sumI_mul, Int.mul_comm (sumI W 0 (z 0 2).toNat) m] at e2
    exact Int.le_of_mul_le_mul_right e2 ha
  obtain ⟨c9, hc9⟩ : ∃ c : Nat, m - sumI (fun g => (W g * m).tdiv (sumI W 0 (z 0 2).toNat)) 0 (z 0 2).toNat = c := ⟨_, (Int.toNat_of_nonneg (by omega)).symm⟩
  rw [hc9] at ov ⊢
  refine s_fg (L' := [(2, 196), (0, m), (1, sumI W 0 (z 0 2).toNat), (9, 0), (0, (c9 : Int)), (9, 0), (9, 0)]) ⟨Or.inr rfl, Or.inr rfl, Or.inr rfl, Or.inr rfl, Or.inr rfl, Or.inl rfl, Or.inr rfl, trivial⟩ ?_
  refine lp_X9_partC (X := pt_ W (z 0 2) m) M hW N1 (fun g a b => by have := (pt_le (n := z 0 2) (fun g a b => (hW g a b).2.1) m0 g a b).2.1; omega) k c9 (fun g => (W g * m).tmod (sumI W 0 (z 0 2).toNat)) (fun g => (W g * m).tdiv (sumI W 0 (z 0 2).toNat)) hB gB fB (fun g a b => ⟨(eB g a b).1, ?_⟩) (fun g a b => ⟨Or.inl (eB g a b).2, ?_, fun q => ?_⟩) (by rw [show ((c9 : Int).toNat : Nat) = c9 by omega] at ov; exact ov) (fun g a b => ?_)
  · have sg := sumI_ge (f := W) (z 0 2).toNat 0 (fun i i0 i1 => (hW i i0 (by omega)).2.1) g a (by omega)
    exact (gb_ (hW g a b).2.1 sg m0 ha).1
  · exact (rb_ (hW g a b).2.1 m0 ha).1
  · have w := (hW g a b).2.1
    rcases (by omega : W g = 0 ∨ 0 < W g) with e | e
    · try dsimp only at q
      rw [e, Int.zero_mul, Int.zero_tmod] at q
      exact absurd q (by omega)
    · exact e
  · unfold pt_
    rw [if_neg (by omega), hc9, show ((c9 : Int).toNat : Nat) = c9 by omega]
end X9F
