/-! the reference: the rest; all of it -/
theorem zdu_6 {z : PH} (I : ZI z) {g c : Int} (g0 : 0 ≤ g) (g1 : g < z 0 2) (hc : 5 ≤ c) : zdu z g c = 0 := by
  have gg := I.2.2.2.2.2 g g0 g1
  unfold zdu
  split
  · rfl
  split
  · rw [if_neg (by omega), if_neg (by omega)]
  split
  · rename_i e
    have := gg.2.2.2.2.2.2.2.1 (Or.inl e)
    rw [if_neg (by omega)]
  split
  · rename_i e
    have := gg.2.2.2.2.2.2.2.1 (Or.inr e)
    rw [if_neg (by omega), if_neg (by omega)]
  · rfl
/-- all is laid out -/
def RM_ (h z : PH) : Prop := (∀ g c : Int, 0 ≤ g → g < z 0 2 → 0 ≤ c → c < 7 → h (196 + 18) (7 * g + c) = zde z g c ∧ h (196 + 19) (7 * g + c) = zgt z g c) ∧ h 196 33 = zct z ∧ h 196 34 = zrs z ∧ h 196 35 = zin z ∧ h 196 36 = zbo z ∧ (∀ p : Int, 0 ≤ p → p < z 0 1 → h (196 + 21) p = if ¬ z 3 p = 0 ∧ 0 < zlv z p then hp_ (z 3) (zlv z) (zhr z) (zin z) p else 0)
theorem zhr_ge {z : PH} {p : Int} (p0 : 0 ≤ p) (p1 : p < z 0 1) (h : ¬ z 3 p = 0 ∧ 0 < zlv z p) : 1 ≤ zhr z := by
  have := sumI_ge (f := fun j => if ¬ z 3 j = 0 ∧ 0 < zlv z j then (1 : Int) else 0) (z 0 1).toNat 0 (fun j _ _ => by split <;> omega) p p0 (by omega)
  rw [if_pos h] at this
  exact this
theorem hp_0 {z : PH} {p : Int} (h : 1 ≤ zhr z) : hp_ (z 3) (zlv z) (zhr z) 0 p = 0 := by
  unfold hp_
  have s := sumI_nonneg (f := fun j => if ¬ z 3 j = 0 ∧ 0 < zlv z j then (1 : Int) else 0) p.toNat 0 (fun j _ _ => by split <;> omega)
  rw [Int.zero_tdiv, Int.zero_tmod, if_neg (by omega)]
  omega
theorem zhr_bd {z : PH} (I : ZI z) : 0 ≤ zhr z ∧ zhr z ≤ 12 := by
  have hP := I.2.2.1
  have a := sumI_nonneg (f := fun j => if ¬ z 3 j = 0 ∧ 0 < zlv z j then (1 : Int) else 0) (z 0 1).toNat 0 (fun j _ _ => by split <;> omega)
  have b := sumI_le (f := fun j => if ¬ z 3 j = 0 ∧ 0 < zlv z j then (1 : Int) else 0) (b := 1) (z 0 1).toNat 0 (fun j _ _ => by split <;> omega)
  unfold zhr
  omega
theorem zhp_bd {z : PH} (I : ZI z) (p : Int) : 0 ≤ sumI (fun j => if ¬ z 3 j = 0 ∧ 0 < zlv z j then (1 : Int) else 0) 0 p.toNat := sumI_nonneg _ _ (fun j _ _ => by split <;> omega)
section X9H2
variable {d bc bs : Nat} {Q : PQ} {h h0 z : PH}
set_option maxRecDepth 100000 in
set_option maxHeartbeats 4000000 in
theorem lp_X9_resA  (K : ∀ (h : PH) (k : Int), G h → (∀ x y : Int, ¬ x = 196 + 21 → h x y = h0 x y) → (∀ p : Int, 0 ≤ p → p < 12 → h (196 + 21) p = 0) → S_ MX9_laysRest d bc bs Q 31 [(2, 196), (0, k), (9, 0), (9, 0), (9, 0)] [] nN h) : ∀ (m : Nat) (k : Int) (h : PH), (0 ≤ k) → (k + m = 12) → (G h) → (∀ x y : Int, ¬ x = 196 + 21 → h x y = h0 x y) → (∀ p : Int, 0 ≤ p → p < k → h (196 + 21) p = 0) → S_ MX9_laysRest d bc bs Q 12 [(2, 196), (0, k), (9, 0), (9, 0), (9, 0)] [] nN h := by
  intro m
  induction m with
  | zero =>
    intro k h k0 km gG fr H
    have hG := gG
    refine s_iload_n dX9_laysRest_12 rfl ?_
    refine s_bipush dX9_laysRest_13 (by decide) ?_
    refine s_icmp_ge (tgt := 31) dX9_laysRest_15 (by decide) (by first | exact hG.2 _ _ | exact b01_in _ | assumption | exact ⟨by omega, by omega⟩) (by first | exact hG.2 _ _ | exact b01_in _ | assumption | exact ⟨by omega, by omega⟩) (fun c1 => ?_) (fun c1 => ?_)
    · exact K h k gG fr (fun p p0 p1 => H p p0 (by omega))
    · exact absurd c1 (by omega)
  | succ m ih =>
    intro k h k0 km gG fr H
    have hG := gG
    refine s_iload_n dX9_laysRest_12 rfl ?_
    refine s_bipush dX9_laysRest_13 (by decide) ?_
    refine s_icmp_ge (tgt := 31) dX9_laysRest_15 (by decide) (by first | exact hG.2 _ _ | exact b01_in _ | assumption | exact ⟨by omega, by omega⟩) (by first | exact hG.2 _ _ | exact b01_in _ | assumption | exact ⟨by omega, by omega⟩) (fun c1 => ?_) (fun c1 => ?_)
    · exact absurd c1 (by omega)
    · refine s_aload_n dX9_laysRest_18 rfl ?_
      refine s_getr dX9_laysRest_19 fl_X9_76 kl_7 (by decide) rfl io_196 (z := 37) rfl (rf_7_37 hG.1 io_196) (rk_7_37 io_196).1 ?_
      refine s_iload_n dX9_laysRest_22 rfl ?_
      refine s_iconst dX9_laysRest_23 ?_
      refine s_iastoreG dX9_laysRest_24 (rk_7_37 io_196) (by omega) (by omega) hG (by first | exact hG.2 _ _ | exact b01_in _ | assumption | exact ⟨by omega, by omega⟩) (fun hG1 => ?_)
      refine s_iinc dX9_laysRest_25 rfl (by decide) rfl (L' := [_, _, _, _, _]) rfl ?_
      refine s_goto (tgt := 12) dX9_laysRest_28 (by decide) ?_
      refine ih (k + 1) _ (by omega) (by omega) hG1 (fun x y a => by rw [hs_ne _ (by omega)]; exact fr x y a) (fun p p0 p1 => ?_)
      by_cases q : p = k
      · rw [q, hs_eq]
      · rw [hs_ne _ (by omega)]
        exact H p p0 (by omega)
set_option maxRecDepth 100000 in
set_option maxHeartbeats 4000000 in
theorem lp_X9_resB  (hd : 4 ≤ d) (M0 : MR_ h0 z) (K : ∀ (h : PH) (a g : Int), G h → (∀ x y : Int, ¬ x = 196 + 16 → ¬ x = 196 + 23 → h x y = h0 x y) → (∀ i : Int, 0 ≤ i → i < z 0 2 → h (196 + 23) i = zwr z i) → (a = 0 ∧ zsw z = 0 ∨ a = 1 ∧ 0 < zsw z) → S_ MX9_laysRest d bc bs Q 105 [(2, 196), (0, a), (0, g), (9, 0), (9, 0)] [] nN h) : ∀ (m : Nat) (g a : Int) (h : PH), (0 ≤ g) → (g + m = z 0 2) → (G h) → (∀ x y : Int, ¬ x = 196 + 16 → ¬ x = 196 + 23 → h x y = h0 x y) → (∀ i : Int, 0 ≤ i → i < g → h (196 + 23) i = zwr z i) → ((a = 0 ∧ ∀ i : Int, 0 ≤ i → i < g → zwr z i = 0) ∨ (a = 1 ∧ ∃ i : Int, 0 ≤ i ∧ i < g ∧ 0 < zwr z i)) → S_ MX9_laysRest d bc bs Q 35 [(2, 196), (0, a), (0, g), (9, 0), (9, 0)] [] nN h := by
  intro m
  induction m with
  | zero =>
    intro g a h g0 gm gG fr H HA
    have hG := gG
    have M := sc_M M0 gG (fun x y a _ => fr x y (by omega) (by omega))
    have I := mr_i M
    have hT := I.2.1
    have hP := I.2.2.1
    have hN := I.2.2.2.1
    have nn := M.2.1
    have wb := fun w : g < z 0 2 => zwr_bd I g0 w
    have ha : inI a := by rcases HA with ⟨e, _⟩ | ⟨e, _⟩ <;> rw [e] <;> exact ⟨by decide, by decide⟩
    refine s_iload_n dX9_laysRest_35 rfl ?_
    refine s_aload_n dX9_laysRest_36 rfl ?_
    refine s_geti dX9_laysRest_37 fl_X9_275 kl_7 (by decide) rfl io_196 (z := 7) rfl ?_
    refine s_icmp_ge (tgt := 105) dX9_laysRest_40 (by decide) (by first | exact hG.2 _ _ | exact b01_in _ | assumption | exact ⟨by omega, by omega⟩) (by first | exact hG.2 _ _ | exact b01_in _ | assumption | exact ⟨by omega, by omega⟩) (fun c1 => ?_) (fun c1 => ?_)
    · have eg : g = z 0 2 := by omega
      rw [eg] at H HA
      refine K h a g gG fr H ?_
      rcases HA with ⟨e, f⟩ | ⟨e, i, i0, i1, i2⟩
      · exact Or.inl ⟨e, sumI_zero _ _ (fun i i0 i1 => f i i0 (by omega))⟩
      · refine Or.inr ⟨e, ?_⟩
        have := sumI_ge (f := zwr z) (z 0 2).toNat 0 (fun j j0 j1 => (zwr_bd I j0 (by omega)).1) i i0 (by omega)
        unfold zsw
        omega
    · exact absurd c1 (by omega)
  | succ m ih =>
    intro g a h g0 gm gG fr H HA
    have hG := gG
    have M := sc_M M0 gG (fun x y a _ => fr x y (by omega) (by omega))
    have I := mr_i M
    have hT := I.2.1
    have hP := I.2.2.1
    have hN := I.2.2.2.1
    have nn := M.2.1
    have wb := fun w : g < z 0 2 => zwr_bd I g0 w
    have ha : inI a := by rcases HA with ⟨e, _⟩ | ⟨e, _⟩ <;> rw [e] <;> exact ⟨by decide, by decide⟩
    refine s_iload_n dX9_laysRest_35 rfl ?_
    refine s_aload_n dX9_laysRest_36 rfl ?_
    refine s_geti dX9_laysRest_37 fl_X9_275 kl_7 (by decide) rfl io_196 (z := 7) rfl ?_
    refine s_icmp_ge (tgt := 105) dX9_laysRest_40 (by decide) (by first | exact hG.2 _ _ | exact b01_in _ | assumption | exact ⟨by omega, by omega⟩) (by first | exact hG.2 _ _ | exact b01_in _ | assumption | exact ⟨by omega, by omega⟩) (fun c1 => ?_) (fun c1 => ?_)
    · exact absurd c1 (by omega)
    · refine s_aload_n dX9_laysRest_43 rfl ?_
      refine s_getr dX9_laysRest_44 fl_X9_83 kl_7 (by decide) rfl io_196 (z := 39) rfl (rf_7_39 hG.1 io_196) (rk_7_39 io_196).1 ?_
      refine s_iload_n dX9_laysRest_47 rfl ?_
      refine s_aload_n dX9_laysRest_48 rfl ?_
      refine s_iload_n dX9_laysRest_49 rfl ?_
      refine s_iconst dX9_laysRest_50 ?_
      refine s_callV (d' := d - 1) (bc' := 0) (bs' := 0) (as := [_, _]) dX9_laysRest_51 vf_X9_317 (dd_ (by omega) (by decide)) ⟨Nat.zero_le _, Nat.zero_le _⟩ rfl rfl (Nat.le_of_ble_eq_true rfl) kl_7 rfl io_196 ?_
      have gg := I.2.2.2.2.2 g g0 (by omega)
      have wb := wb (by omega)
      have fL : ∀ x y : Int, ¬ x = 196 + 16 → h x y = h x y := fun _ _ _ => rfl
      refine c_X9_of M g0 (by omega) (by omega) (by omega) (j := 5) (by omega) ?_
      refine s_iconst dX9_laysRest_54 ?_
      refine s_icmp_ne (tgt := 76) dX9_laysRest_55 (by decide) (by first | exact hG.2 _ _ | exact b01_in _ | assumption | exact ⟨by omega, by omega⟩) (by first | exact hG.2 _ _ | exact b01_in _ | assumption | exact ⟨by omega, by omega⟩) (fun c2 => ?_) (fun c2 => ?_)
      · refine s_lconstz (z := 0) dX9_laysRest_76 rfl ?_
        refine s_lastoreG dX9_laysRest_77 (rk_7_39 io_196) (by omega) (by omega) hG (by first | exact hG.2 _ _ | exact b01_in _ | assumption | exact ⟨by omega, by omega⟩) (fun hG1 => ?_)
        refine s_iload_n dX9_laysRest_78 rfl ?_
        refine s_if_ne (tgt := 93) dX9_laysRest_79 (by decide) (by first | exact hG1.2 _ _ | exact hG.2 _ _ | exact b01_in _ | assumption | exact ⟨by omega, by omega⟩) (fun c3 => ?_) (fun c3 => ?_)
        · refine s_iconst dX9_laysRest_93 ?_
          refine s_goto (tgt := 98) dX9_laysRest_94 (by decide) ?_
          refine s_istore_n dX9_laysRest_98 (by decide) rfl (L' := [_, _, _, _, _]) rfl ?_
          refine s_iinc dX9_laysRest_99 rfl (by decide) rfl (L' := [_, _, _, _, _]) rfl ?_
          refine s_goto (tgt := 35) dX9_laysRest_102 (by decide) ?_
          have ew : zwr z g = if z 5 g = 3 ∧ zlp z g = 0 then z 8 g else 0 := rfl
          have ev : zwr z g = 0 := by rw [ew]; first | exact if_pos ⟨by omega, by omega⟩ | exact if_neg (by omega)
          refine ih (g + 1) 1 _ (by omega) (by omega) hG1 (fun x y p q => by rw [hs_ne _ (by omega)]; exact fr x y p q) (fun i i0 i1 => ?_) ?_
          · by_cases q : i = g
            · rw [q, hs_eq, ev]
            · rw [hs_ne _ (by omega), fL _ _ (by omega)]
              exact H i i0 (by omega)
          · refine Or.inr ⟨rfl, ?_⟩
            rcases HA with ⟨e, f⟩ | ⟨e, i, i0, i1, i2⟩
            · first | exact absurd e (by omega) | exact ⟨g, g0, by omega, by omega⟩
            · exact ⟨i, i0, by omega, i2⟩
        · refine s_aload_n dX9_laysRest_82 rfl ?_
          refine s_getr dX9_laysRest_83 fl_X9_83 kl_7 (by decide) rfl io_196 (z := 39) rfl (rf_7_39 hG1.1 io_196) (rk_7_39 io_196).1 ?_
          refine s_iload_n dX9_laysRest_86 rfl ?_
          refine s_laload dX9_laysRest_87 (rk_7_39 io_196) (by omega) (by omega) ?_
          rw [hs_eq]
          refine s_lconstz (z := 0) dX9_laysRest_88 rfl ?_
          refine s_lcmp_le (tgt := 97) dX9_laysRest_89 dX9_laysRest_90 (by decide) (by first | assumption | exact inI_L (by first | exact hG1.2 _ _ | exact hG.2 _ _ | exact b01_in _ | assumption | exact ⟨by omega, by omega⟩) | exact ⟨by omega, by omega⟩) (by first | assumption | exact inI_L (by first | exact hG1.2 _ _ | exact hG.2 _ _ | exact b01_in _ | assumption | exact ⟨by omega, by omega⟩) | exact ⟨by omega, by omega⟩) (fun c4 => ?_) (fun c4 => ?_)
          · refine s_iconst dX9_laysRest_97 ?_
            refine s_istore_n dX9_laysRest_98 (by decide) rfl (L' := [_, _, _, _, _]) rfl ?_
            refine s_iinc dX9_laysRest_99 rfl (by decide) rfl (L' := [_, _, _, _, _]) rfl ?_
            refine s_goto (tgt := 35) dX9_laysRest_102 (by decide) ?_
            have ew : zwr z g = if z 5 g = 3 ∧ zlp z g = 0 then z 8 g else 0 := rfl
            have ev : zwr z g = 0 := by rw [ew]; first | exact if_pos ⟨by omega, by omega⟩ | exact if_neg (by omega)
            refine ih (g + 1) 0 _ (by omega) (by omega) hG1 (fun x y p q => by rw [hs_ne _ (by omega)]; exact fr x y p q) (fun i i0 i1 => ?_) ?_
            · by_cases q : i = g
              · rw [q, hs_eq, ev]
              · rw [hs_ne _ (by omega), fL _ _ (by omega)]
                exact H i i0 (by omega)
            · refine Or.inl ⟨rfl, fun i i0 i1 => ?_⟩
              rcases HA with ⟨e, f⟩ | ⟨e, _⟩
              · rcases (by omega : i < g ∨ i = g) with q | q
                · exact f i i0 q
                · first | (rw [q, ev]; done) | (rw [q, ev]; omega)
              · exact absurd e (by omega)
          · refine s_iconst dX9_laysRest_93 ?_
            refine s_goto (tgt := 98) dX9_laysRest_94 (by decide) ?_
            refine s_istore_n dX9_laysRest_98 (by decide) rfl (L' := [_, _, _, _, _]) rfl ?_
            refine s_iinc dX9_laysRest_99 rfl (by decide) rfl (L' := [_, _, _, _, _]) rfl ?_
            refine s_goto (tgt := 35) dX9_laysRest_102 (by decide) ?_
            have ew : zwr z g = if z 5 g = 3 ∧ zlp z g = 0 then z 8 g else 0 := rfl
            have ev : zwr z g = 0 := by rw [ew]; first | exact if_pos ⟨by omega, by omega⟩ | exact if_neg (by omega)
            refine ih (g + 1) 1 _ (by omega) (by omega) hG1 (fun x y p q => by rw [hs_ne _ (by omega)]; exact fr x y p q) (fun i i0 i1 => ?_) ?_
            · by_cases q : i = g
              · rw [q, hs_eq, ev]
              · rw [hs_ne _ (by omega), fL _ _ (by omega)]
                exact H i i0 (by omega)
            · refine Or.inr ⟨rfl, ?_⟩
              rcases HA with ⟨e, f⟩ | ⟨e, i, i0, i1, i2⟩
              · first | exact absurd e (by omega) | exact ⟨g, g0, by omega, by omega⟩
              · exact ⟨i, i0, by omega, i2⟩
      · refine s_aload_n dX9_laysRest_58 rfl ?_
        refine s_iload_n dX9_laysRest_59 rfl ?_
        refine s_callV (d' := d - 1) (bc' := 0) (bs' := 0) (as := [_]) dX9_laysRest_60 vf_X9_322 (dd_ (by omega) (by decide)) ⟨Nat.zero_le _, Nat.zero_le _⟩ rfl rfl (Nat.le_of_ble_eq_true rfl) kl_7 rfl io_196 ?_
        refine c_X9_lapses (by omega) M g0 (by omega) (fun hhG2 ghG2 fhG2 => ?_)
        have hG2 := ghG2
        have M := sc_M M ghG2 (sc_16 fhG2)
        have fL := fhG2
        have fr := fun x y (hx : ¬ x = 196 + 16) (hy : ¬ x = 196 + 23) => (fhG2 x y hx).trans (fr x y hx hy)
        have lb : inI (zlp z g) := by unfold zlp; exact b01_in _
        refine s_if_ne (tgt := 76) dX9_laysRest_63 (by decide) (by first | exact hG2.2 _ _ | exact hG.2 _ _ | exact b01_in _ | assumption | exact ⟨by omega, by omega⟩) (fun c5 => ?_) (fun c5 => ?_)
        · refine s_lconstz (z := 0) dX9_laysRest_76 rfl ?_
          refine s_lastoreG dX9_laysRest_77 (rk_7_39 io_196) (by omega) (by omega) hG2 (by first | exact hG2.2 _ _ | exact hG.2 _ _ | exact b01_in _ | assumption | exact ⟨by omega, by omega⟩) (fun hG3 => ?_)
          refine s_iload_n dX9_laysRest_78 rfl ?_
          refine s_if_ne (tgt := 93) dX9_laysRest_79 (by decide) (by first | exact hG3.2 _ _ | exact hG.2 _ _ | exact b01_in _ | assumption | exact ⟨by omega, by omega⟩) (fun c6 => ?_) (fun c6 => ?_)
          · refine s_iconst dX9_laysRest_93 ?_
            refine s_goto (tgt := 98) dX9_laysRest_94 (by decide) ?_
            refine s_istore_n dX9_laysRest_98 (by decide) rfl (L' := [_, _, _, _, _]) rfl ?_
            refine s_iinc dX9_laysRest_99 rfl (by decide) rfl (L' := [_, _, _, _, _]) rfl ?_
            refine s_goto (tgt := 35) dX9_laysRest_102 (by decide) ?_
            have ew : zwr z g = if z 5 g = 3 ∧ zlp z g = 0 then z 8 g else 0 := rfl
            have ev : zwr z g = 0 := by rw [ew]; first | exact if_pos ⟨by omega, by omega⟩ | exact if_neg (by omega)
            refine ih (g + 1) 1 _ (by omega) (by omega) hG3 (fun x y p q => by rw [hs_ne _ (by omega)]; exact fr x y p q) (fun i i0 i1 => ?_) ?_
            · by_cases q : i = g
              · rw [q, hs_eq, ev]
              · rw [hs_ne _ (by omega), fL _ _ (by omega)]
                exact H i i0 (by omega)
            · refine Or.inr ⟨rfl, ?_⟩
              rcases HA with ⟨e, f⟩ | ⟨e, i, i0, i1, i2⟩
              · first | exact absurd e (by omega) | exact ⟨g, g0, by omega, by omega⟩
              · exact ⟨i, i0, by omega, i2⟩
          · refine s_aload_n dX9_laysRest_82 rfl ?_
            refine s_getr dX9_laysRest_83 fl_X9_83 kl_7 (by decide) rfl io_196 (z := 39) rfl (rf_7_39 hG3.1 io_196) (rk_7_39 io_196).1 ?_
            refine s_iload_n dX9_laysRest_86 rfl ?_
            refine s_laload dX9_laysRest_87 (rk_7_39 io_196) (by omega) (by omega) ?_
            rw [hs_eq]
            refine s_lconstz (z := 0) dX9_laysRest_88 rfl ?_
            refine s_lcmp_le (tgt := 97) dX9_laysRest_89 dX9_laysRest_90 (by decide) (by first | assumption | exact inI_L (by first | exact hG3.2 _ _ | exact hG.2 _ _ | exact b01_in _ | assumption | exact ⟨by omega, by omega⟩) | exact ⟨by omega, by omega⟩) (by first | assumption | exact inI_L (by first | exact hG3.2 _ _ | exact hG.2 _ _ | exact b01_in _ | assumption | exact ⟨by omega, by omega⟩) | exact ⟨by omega, by omega⟩) (fun c7 => ?_) (fun c7 => ?_)
            · refine s_iconst dX9_laysRest_97 ?_
              refine s_istore_n dX9_laysRest_98 (by decide) rfl (L' := [_, _, _, _, _]) rfl ?_
              refine s_iinc dX9_laysRest_99 rfl (by decide) rfl (L' := [_, _, _, _, _]) rfl ?_
              refine s_goto (tgt := 35) dX9_laysRest_102 (by decide) ?_
              have ew : zwr z g = if z 5 g = 3 ∧ zlp z g = 0 then z 8 g else 0 := rfl
              have ev : zwr z g = 0 := by rw [ew]; first | exact if_pos ⟨by omega, by omega⟩ | exact if_neg (by omega)
              refine ih (g + 1) 0 _ (by omega) (by omega) hG3 (fun x y p q => by rw [hs_ne _ (by omega)]; exact fr x y p q) (fun i i0 i1 => ?_) ?_
              · by_cases q : i = g
                · rw [q, hs_eq, ev]
                · rw [hs_ne _ (by omega), fL _ _ (by omega)]
                  exact H i i0 (by omega)
              · refine Or.inl ⟨rfl, fun i i0 i1 => ?_⟩
                rcases HA with ⟨e, f⟩ | ⟨e, _⟩
                · rcases (by omega : i < g ∨ i = g) with q | q
                  · exact f i i0 q
                  · first | (rw [q, ev]; done) | (rw [q, ev]; omega)
                · exact absurd e (by omega)
            · refine s_iconst dX9_laysRest_93 ?_
              refine s_goto (tgt := 98) dX9_laysRest_94 (by decide) ?_
              refine s_istore_n dX9_laysRest_98 (by decide) rfl (L' := [_, _, _, _, _]) rfl ?_
              refine s_iinc dX9_laysRest_99 rfl (by decide) rfl (L' := [_, _, _, _, _]) rfl ?_
              refine s_goto (tgt := 35) dX9_laysRest_102 (by decide) ?_
              have ew : zwr z g = if z 5 g = 3 ∧ zlp z g = 0 then z 8 g else 0 := rfl
              have ev : zwr z g = 0 := by rw [ew]; first | exact if_pos ⟨by omega, by omega⟩ | exact if_neg (by omega)
              refine ih (g + 1) 1 _ (by omega) (by omega) hG3 (fun x y p q => by rw [hs_ne _ (by omega)]; exact fr x y p q) (fun i i0 i1 => ?_) ?_
              · by_cases q : i = g
                · rw [q, hs_eq, ev]
                · rw [hs_ne _ (by omega), fL _ _ (by omega)]
                  exact H i i0 (by omega)
              · refine Or.inr ⟨rfl, ?_⟩
                rcases HA with ⟨e, f⟩ | ⟨e, i, i0, i1, i2⟩
                · first | exact absurd e (by omega) | exact ⟨g, g0, by omega, by omega⟩
                · exact ⟨i, i0, by omega, i2⟩
        · refine s_aload_n dX9_laysRest_66 rfl ?_
          refine s_iload_n dX9_laysRest_67 rfl ?_
          refine s_iconst dX9_laysRest_68 ?_
          refine s_callV (d' := d - 1) (bc' := 0) (bs' := 0) (as := [_, _]) dX9_laysRest_69 vf_X9_317 (dd_ (by omega) (by decide)) ⟨Nat.zero_le _, Nat.zero_le _⟩ rfl rfl (Nat.le_of_ble_eq_true rfl) kl_7 rfl io_196 ?_
          refine c_X9_of M g0 (by omega) (by omega) (by omega) (j := 8) (by omega) ?_
          refine s_i2l dX9_laysRest_72 (by first | exact hG2.2 _ _ | exact hG.2 _ _ | exact b01_in _ | assumption | exact ⟨by omega, by omega⟩) ?_
          refine s_goto (tgt := 77) dX9_laysRest_73 (by decide) ?_
          refine s_lastoreG dX9_laysRest_77 (rk_7_39 io_196) (by omega) (by omega) hG2 (by first | exact hG2.2 _ _ | exact hG.2 _ _ | exact b01_in _ | assumption | exact ⟨by omega, by omega⟩) (fun hG4 => ?_)
          refine s_iload_n dX9_laysRest_78 rfl ?_
          refine s_if_ne (tgt := 93) dX9_laysRest_79 (by decide) (by first | exact hG4.2 _ _ | exact hG.2 _ _ | exact b01_in _ | assumption | exact ⟨by omega, by omega⟩) (fun c8 => ?_) (fun c8 => ?_)
          · refine s_iconst dX9_laysRest_93 ?_
            refine s_goto (tgt := 98) dX9_laysRest_94 (by decide) ?_
            refine s_istore_n dX9_laysRest_98 (by decide) rfl (L' := [_, _, _, _, _]) rfl ?_
            refine s_iinc dX9_laysRest_99 rfl (by decide) rfl (L' := [_, _, _, _, _]) rfl ?_
            refine s_goto (tgt := 35) dX9_laysRest_102 (by decide) ?_
            have ew : zwr z g = if z 5 g = 3 ∧ zlp z g = 0 then z 8 g else 0 := rfl
            have ev : zwr z g = z 8 g := by rw [ew]; first | exact if_pos ⟨by omega, by omega⟩ | exact if_neg (by omega)
            refine ih (g + 1) 1 _ (by omega) (by omega) hG4 (fun x y p q => by rw [hs_ne _ (by omega)]; exact fr x y p q) (fun i i0 i1 => ?_) ?_
            · by_cases q : i = g
              · rw [q, hs_eq, ev]
              · rw [hs_ne _ (by omega), fL _ _ (by omega)]
                exact H i i0 (by omega)
            · refine Or.inr ⟨rfl, ?_⟩
              rcases HA with ⟨e, f⟩ | ⟨e, i, i0, i1, i2⟩
              · first | exact absurd e (by omega) | exact ⟨g, g0, by omega, by omega⟩
              · exact ⟨i, i0, by omega, i2⟩
          · refine s_aload_n dX9_laysRest_82 rfl ?_
            refine s_getr dX9_laysRest_83 fl_X9_83 kl_7 (by decide) rfl io_196 (z := 39) rfl (rf_7_39 hG4.1 io_196) (rk_7_39 io_196).1 ?_
            refine s_iload_n dX9_laysRest_86 rfl ?_
            refine s_laload dX9_laysRest_87 (rk_7_39 io_196) (by omega) (by omega) ?_
            rw [hs_eq]
            refine s_lconstz (z := 0) dX9_laysRest_88 rfl ?_
            refine s_lcmp_le (tgt := 97) dX9_laysRest_89 dX9_laysRest_90 (by decide) (by first | assumption | exact inI_L (by first | exact hG4.2 _ _ | exact hG.2 _ _ | exact b01_in _ | assumption | exact ⟨by omega, by omega⟩) | exact ⟨by omega, by omega⟩) (by first | assumption | exact inI_L (by first | exact hG4.2 _ _ | exact hG.2 _ _ | exact b01_in _ | assumption | exact ⟨by omega, by omega⟩) | exact ⟨by omega, by omega⟩) (fun c9 => ?_) (fun c9 => ?_)
            · refine s_iconst dX9_laysRest_97 ?_
              refine s_istore_n dX9_laysRest_98 (by decide) rfl (L' := [_, _, _, _, _]) rfl ?_
              refine s_iinc dX9_laysRest_99 rfl (by decide) rfl (L' := [_, _, _, _, _]) rfl ?_
              refine s_goto (tgt := 35) dX9_laysRest_102 (by decide) ?_
              have ew : zwr z g = if z 5 g = 3 ∧ zlp z g = 0 then z 8 g else 0 := rfl
              have ev : zwr z g = z 8 g := by rw [ew]; first | exact if_pos ⟨by omega, by omega⟩ | exact if_neg (by omega)
              refine ih (g + 1) 0 _ (by omega) (by omega) hG4 (fun x y p q => by rw [hs_ne _ (by omega)]; exact fr x y p q) (fun i i0 i1 => ?_) ?_
              · by_cases q : i = g
                · rw [q, hs_eq, ev]
                · rw [hs_ne _ (by omega), fL _ _ (by omega)]
                  exact H i i0 (by omega)
              · refine Or.inl ⟨rfl, fun i i0 i1 => ?_⟩
                rcases HA with ⟨e, f⟩ | ⟨e, _⟩
                · rcases (by omega : i < g ∨ i = g) with q | q
                  · exact f i i0 q
                  · first | (rw [q, ev]; done) | (rw [q, ev]; omega)
                · exact absurd e (by omega)
            · refine s_iconst dX9_laysRest_93 ?_
              refine s_goto (tgt := 98) dX9_laysRest_94 (by decide) ?_
              refine s_istore_n dX9_laysRest_98 (by decide) rfl (L' := [_, _, _, _, _]) rfl ?_
              refine s_iinc dX9_laysRest_99 rfl (by decide) rfl (L' := [_, _, _, _, _]) rfl ?_
              refine s_goto (tgt := 35) dX9_laysRest_102 (by decide) ?_
              have ew : zwr z g = if z 5 g = 3 ∧ zlp z g = 0 then z 8 g else 0 := rfl
              have ev : zwr z g = z 8 g := by rw [ew]; first | exact if_pos ⟨by omega, by omega⟩ | exact if_neg (by omega)
              refine ih (g + 1) 1 _ (by omega) (by omega) hG4 (fun x y p q => by rw [hs_ne _ (by omega)]; exact fr x y p q) (fun i i0 i1 => ?_) ?_
              · by_cases q : i = g
                · rw [q, hs_eq, ev]
                · rw [hs_ne _ (by omega), fL _ _ (by omega)]
                  exact H i i0 (by omega)
              · refine Or.inr ⟨rfl, ?_⟩
                rcases HA with ⟨e, f⟩ | ⟨e, i, i0, i1, i2⟩
                · first | exact absurd e (by omega) | exact ⟨g, g0, by omega, by omega⟩
                · exact ⟨i, i0, by omega, i2⟩
set_option maxRecDepth 100000 in
set_option maxHeartbeats 4000000 in
theorem lp_X9_resC {X : Int → Int} {a9 : Int} (M0 : MR_ h0 z) (hX : ∀ g : Int, 0 ≤ g → g < z 0 2 → h0 (196 + 24) g = X g ∧ inI (X g)) (K : ∀ (h : PH) (g : Int), G h → (∀ x y : Int, ¬ (x = 196 + 18 ∧ y % 7 = 6) → ¬ (x = 196 + 19 ∧ y % 7 = 6) → h x y = h0 x y) → (∀ i : Int, 0 ≤ i → i < z 0 2 → h (196 + 18) (7 * i + 6) = X i ∧ h (196 + 19) (7 * i + 6) = X i) → S_ MX9_laysRest d bc bs Q 169 [(2, 196), (0, a9), (0, g), (9, 0), (9, 0)] [] nN h) : ∀ (m : Nat) (g : Int) (h : PH), (0 ≤ g) → (g + m = z 0 2) → (G h) → (∀ x y : Int, ¬ (x = 196 + 18 ∧ y % 7 = 6) → ¬ (x = 196 + 19 ∧ y % 7 = 6) → h x y = h0 x y) → (∀ i : Int, 0 ≤ i → i < g → h (196 + 18) (7 * i + 6) = X i ∧ h (196 + 19) (7 * i + 6) = X i) → S_ MX9_laysRest d bc bs Q 119 [(2, 196), (0, a9), (0, g), (9, 0), (9, 0)] [] nN h := by
  intro m
  induction m with
  | zero =>
    intro g h g0 gm gG fr H
    have hG := gG
    have M := sc_M M0 gG (fun x y a _ => fr x y (by omega) (by omega))
    have I := mr_i M
    have hT := I.2.1
    have hP := I.2.2.1
    have hN := I.2.2.2.1
    have nn := M.2.1
    refine s_iload_n dX9_laysRest_119 rfl ?_
    refine s_aload_n dX9_laysRest_120 rfl ?_
    refine s_geti dX9_laysRest_121 fl_X9_275 kl_7 (by decide) rfl io_196 (z := 7) rfl ?_
    refine s_icmp_ge (tgt := 169) dX9_laysRest_124 (by decide) (by first | exact hG.2 _ _ | exact b01_in _ | assumption | exact ⟨by omega, by omega⟩) (by first | exact hG.2 _ _ | exact b01_in _ | assumption | exact ⟨by omega, by omega⟩) (fun c1 => ?_) (fun c1 => ?_)
    · exact K h g gG fr (fun i i0 i1 => H i i0 (by omega))
    · exact absurd c1 (by omega)
  | succ m ih =>
    intro g h g0 gm gG fr H
    have hG := gG
    have M := sc_M M0 gG (fun x y a _ => fr x y (by omega) (by omega))
    have I := mr_i M
    have hT := I.2.1
    have hP := I.2.2.1
    have hN := I.2.2.2.1
    have nn := M.2.1
    refine s_iload_n dX9_laysRest_119 rfl ?_
    refine s_aload_n dX9_laysRest_120 rfl ?_
    refine s_geti dX9_laysRest_121 fl_X9_275 kl_7 (by decide) rfl io_196 (z := 7) rfl ?_
    refine s_icmp_ge (tgt := 169) dX9_laysRest_124 (by decide) (by first | exact hG.2 _ _ | exact b01_in _ | assumption | exact ⟨by omega, by omega⟩) (by first | exact hG.2 _ _ | exact b01_in _ | assumption | exact ⟨by omega, by omega⟩) (fun c1 => ?_) (fun c1 => ?_)
    · exact absurd c1 (by omega)
    · refine s_aload_n dX9_laysRest_127 rfl ?_
      refine s_getr dX9_laysRest_128 fl_X9_67 kl_7 (by decide) rfl io_196 (z := 30) rfl (rf_7_30 hG.1 io_196) (rk_7_30 io_196).1 ?_
      refine s_bipush dX9_laysRest_131 (by decide) ?_
      refine s_iload_n dX9_laysRest_133 rfl ?_
      refine s_imul dX9_laysRest_134 ?_
      refine s_bipush dX9_laysRest_135 (by decide) ?_
      refine s_iadd dX9_laysRest_137 ?_
      refine s_aload_n dX9_laysRest_138 rfl ?_
      refine s_getr dX9_laysRest_139 fl_X9_86 kl_7 (by decide) rfl io_196 (z := 40) rfl (rf_7_40 hG.1 io_196) (rk_7_40 io_196).1 ?_
      refine s_iload_n dX9_laysRest_142 rfl ?_
      refine s_iaload dX9_laysRest_143 (rk_7_40 io_196) (by omega) (by omega) ?_
      have xg := hX g g0 (by omega)
      have xi := xg.2
      rw [fr _ _ (by omega) (by omega), xg.1]
      refine s_iastoreG dX9_laysRest_144 (rk_7_30 io_196) (by omega) (by omega) hG (by first | exact hG.2 _ _ | exact b01_in _ | assumption | exact ⟨by omega, by omega⟩) (fun hG1 => ?_)
      refine s_aload_n dX9_laysRest_145 rfl ?_
      refine s_getr dX9_laysRest_146 fl_X9_70 kl_7 (by decide) rfl io_196 (z := 31) rfl (rf_7_31 hG1.1 io_196) (rk_7_31 io_196).1 ?_
      refine s_bipush dX9_laysRest_149 (by decide) ?_
      refine s_iload_n dX9_laysRest_151 rfl ?_
      refine s_imul dX9_laysRest_152 ?_
      refine s_bipush dX9_laysRest_153 (by decide) ?_
      refine s_iadd dX9_laysRest_155 ?_
      refine s_aload_n dX9_laysRest_156 rfl ?_
      refine s_getr dX9_laysRest_157 fl_X9_86 kl_7 (by decide) rfl io_196 (z := 40) rfl (rf_7_40 hG1.1 io_196) (rk_7_40 io_196).1 ?_
      refine s_iload_n dX9_laysRest_160 rfl ?_
      refine s_iaload dX9_laysRest_161 (rk_7_40 io_196) (by omega) (by omega) ?_
      rw [hs_ne _ (by omega), fr _ _ (by omega) (by omega), xg.1]
      refine s_iastoreG dX9_laysRest_162 (rk_7_31 io_196) (by omega) (by omega) hG1 (by first | exact hG1.2 _ _ | exact hG.2 _ _ | exact b01_in _ | assumption | exact ⟨by omega, by omega⟩) (fun hG2 => ?_)
      refine s_iinc dX9_laysRest_163 rfl (by decide) rfl (L' := [_, _, _, _, _]) rfl ?_
      refine s_goto (tgt := 119) dX9_laysRest_166 (by decide) ?_
      refine ih (g + 1) _ (by omega) (by omega) hG2 (fun x y a b => by rw [hs_ne _ (by omega), hs_ne _ (by omega)]; exact fr x y a b) (fun i i0 i1 => ?_)
      by_cases q : i = g
      · rw [q, hs_ne _ (by omega), hs_eq, hs_eq]
        exact ⟨rfl, rfl⟩
      · rw [hs_ne _ (by omega), hs_ne _ (by omega), hs_ne _ (by omega), hs_ne _ (by omega)]
        exact H i i0 (by omega)
set_option maxRecDepth 100000 in
set_option maxHeartbeats 4000000 in
theorem lp_X9_resD {r a9 : Int} (hd : 4 ≤ d) (M0 : MR_ h0 z) (er : h0 196 34 = r) (r0 : 0 ≤ r) (r1 : r ≤ 1000000) (z1 : 1 ≤ zhr z) (k : ∀ h : PH, G h → (∀ x y : Int, ¬ x = 196 + 16 → ¬ x = 196 + 21 → h x y = h0 x y) → (∀ i : Int, 0 ≤ i → i < z 0 1 → h (196 + 21) i = if ¬ z 3 i = 0 ∧ 0 < zlv z i then hp_ (z 3) (zlv z) (zhr z) r i else 0) → Q.1 none nN h) : ∀ (m : Nat) (p w : Int) (h : PH), (0 ≤ p) → (p + m = z 0 1) → (G h) → (∀ x y : Int, ¬ x = 196 + 16 → ¬ x = 196 + 21 → h x y = h0 x y) → (w = sumI (fun j => if ¬ z 3 j = 0 ∧ 0 < zlv z j then (1 : Int) else 0) 0 p.toNat) → (∀ i : Int, 0 ≤ i → i < p → h (196 + 21) i = if ¬ z 3 i = 0 ∧ 0 < zlv z i then hp_ (z 3) (zlv z) (zhr z) r i else 0) → (∀ i : Int, p ≤ i → i < 12 → h (196 + 21) i = 0) → S_ MX9_laysRest d bc bs Q 212 [(2, 196), (0, a9), (0, zhr z), (0, w), (0, p)] [] nN h := by
  intro m
  induction m with
  | zero =>
    intro p w h p0 pm gG fr hw H H0
    have hG := gG
    have M := sc_M M0 gG (fun x y a _ => fr x y (by omega) (by omega))
    have I := mr_i M
    have hT := I.2.1
    have hP := I.2.2.1
    have hN := I.2.2.2.1
    have nn := M.2.1
    have zb := zhr_bd I
    have dv : 0 ≤ r.tdiv (zhr z) ∧ r.tdiv (zhr z) ≤ r := by rw [Int.tdiv_eq_ediv_of_nonneg r0]; exact ⟨Int.ediv_nonneg r0 (by omega), Int.ediv_le_self _ r0⟩
    have dm : inI (r.tmod (zhr z)) := tmod_inI ⟨by omega, by omega⟩
    have wz := zhp_bd I p
    have wz1 := sumI_le (f := fun j => if ¬ z 3 j = 0 ∧ 0 < zlv z j then (1 : Int) else 0) (b := 1) p.toNat 0 (fun j _ _ => by split <;> omega)
    refine s_iload dX9_laysRest_212 rfl ?_
    refine s_aload_n dX9_laysRest_214 rfl ?_
    refine s_geti dX9_laysRest_215 fl_X9_281 kl_7 (by decide) rfl io_196 (z := 6) rfl ?_
    refine s_icmp_ge (tgt := 268) dX9_laysRest_218 (by decide) (by first | exact hG.2 _ _ | exact b01_in _ | assumption | exact ⟨by omega, by omega⟩) (by first | exact hG.2 _ _ | exact b01_in _ | assumption | exact ⟨by omega, by omega⟩) (fun c1 => ?_) (fun c1 => ?_)
    · exact s_return dX9_laysRest_268 rfl (k h gG fr (fun i i0 i1 => H i i0 (by omega)))
    · exact absurd c1 (by omega)
  | succ m ih =>
    intro p w h p0 pm gG fr hw H H0
    have hG := gG
    have M := sc_M M0 gG (fun x y a _ => fr x y (by omega) (by omega))
    have I := mr_i M
    have hT := I.2.1
    have hP := I.2.2.1
    have hN := I.2.2.2.1
    have nn := M.2.1
    have zb := zhr_bd I
    have dv : 0 ≤ r.tdiv (zhr z) ∧ r.tdiv (zhr z) ≤ r := by rw [Int.tdiv_eq_ediv_of_nonneg r0]; exact ⟨Int.ediv_nonneg r0 (by omega), Int.ediv_le_self _ r0⟩
    have dm : inI (r.tmod (zhr z)) := tmod_inI ⟨by omega, by omega⟩
    have wz := zhp_bd I p
    have wz1 := sumI_le (f := fun j => if ¬ z 3 j = 0 ∧ 0 < zlv z j then (1 : Int) else 0) (b := 1) p.toNat 0 (fun j _ _ => by split <;> omega)
    refine s_iload dX9_laysRest_212 rfl ?_
    refine s_aload_n dX9_laysRest_214 rfl ?_
    refine s_geti dX9_laysRest_215 fl_X9_281 kl_7 (by decide) rfl io_196 (z := 6) rfl ?_
    refine s_icmp_ge (tgt := 268) dX9_laysRest_218 (by decide) (by first | exact hG.2 _ _ | exact b01_in _ | assumption | exact ⟨by omega, by omega⟩) (by first | exact hG.2 _ _ | exact b01_in _ | assumption | exact ⟨by omega, by omega⟩) (fun c1 => ?_) (fun c1 => ?_)
    · exact absurd c1 (by omega)
    · refine s_aload_n dX9_laysRest_221 rfl ?_
      refine s_iload dX9_laysRest_222 rfl ?_
      refine s_callV (d' := d - 1) (bc' := 0) (bs' := 0) (as := [_]) dX9_laysRest_224 vf_X9_400 (dd_ (by omega) (by decide)) ⟨Nat.zero_le _, Nat.zero_le _⟩ rfl rfl (Nat.le_of_ble_eq_true rfl) kl_7 rfl io_196 ?_
      refine c_X9_isHeir (by omega) M p0 (by omega) (fun hhG1 ghG1 fhG1 => ?_)
      have hG1 := ghG1
      have M := sc_M M ghG1 (sc_16 fhG1)
      have fL := fhG1
      have fr := fun x y (hx : ¬ x = 196 + 16) (hy : ¬ x = 196 + 21) => (fhG1 x y hx).trans (fr x y hx hy)
      have er2 := (fr 196 34 (by omega) (by omega)).trans er
      refine s_if_eq (tgt := 262) dX9_laysRest_227 (by decide) (by first | exact hG1.2 _ _ | exact hG.2 _ _ | exact b01_in _ | assumption | exact ⟨by omega, by omega⟩) (fun c2 => ?_) (fun c2 => ?_)
      · have c2 := b01_0.mp c2
        refine s_iinc dX9_laysRest_262 rfl (by decide) rfl (L' := [_, _, _, _, _]) rfl ?_
        refine s_goto (tgt := 212) dX9_laysRest_265 (by decide) ?_
        refine ih (p + 1) _ _ (by omega) (by omega) hG1 fr (by rw [zhr_up p0, ← hw, if_neg c2]; omega) (fun i i0 i1 => ?_) (fun i i0 i1 => by rw [fL _ _ (by omega)]; exact H0 i (by omega) i1)
        by_cases q : i = p
        · rw [q, if_neg c2, fL _ _ (by omega)]
          exact H0 p (Int.le_refl _) (by omega)
        · rw [fL _ _ (by omega)]
          exact H i i0 (by omega)
      · have c2 := b01_n.mp c2
        refine s_aload_n dX9_laysRest_230 rfl ?_
        refine s_getr dX9_laysRest_231 fl_X9_76 kl_7 (by decide) rfl io_196 (z := 37) rfl (rf_7_37 hG1.1 io_196) (rk_7_37 io_196).1 ?_
        refine s_iload dX9_laysRest_234 rfl ?_
        refine s_aload_n dX9_laysRest_236 rfl ?_
        refine s_geti dX9_laysRest_237 fl_X9_385 kl_7 (by decide) rfl io_196 (z := 34) rfl ?_
        rw [er2]
        refine s_iload_n dX9_laysRest_240 rfl ?_
        refine s_idiv dX9_laysRest_241 (by first | exact hG1.2 _ _ | exact hG.2 _ _ | exact b01_in _ | assumption | exact ⟨by omega, by omega⟩) (by first | exact hG1.2 _ _ | exact hG.2 _ _ | exact b01_in _ | assumption | exact ⟨by omega, by omega⟩) (by omega) (by omega) ?_
        refine s_iload_n dX9_laysRest_242 rfl ?_
        refine s_aload_n dX9_laysRest_243 rfl ?_
        refine s_geti dX9_laysRest_244 fl_X9_385 kl_7 (by decide) rfl io_196 (z := 34) rfl ?_
        rw [er2]
        refine s_iload_n dX9_laysRest_247 rfl ?_
        refine s_irem dX9_laysRest_248 (by first | exact hG1.2 _ _ | exact hG.2 _ _ | exact b01_in _ | assumption | exact ⟨by omega, by omega⟩) (by first | exact hG1.2 _ _ | exact hG.2 _ _ | exact b01_in _ | assumption | exact ⟨by omega, by omega⟩) (by omega) (by omega) ?_
        refine s_icmp_ge (tgt := 256) dX9_laysRest_249 (by decide) (by first | exact hG1.2 _ _ | exact hG.2 _ _ | exact b01_in _ | assumption | exact ⟨by omega, by omega⟩) (by first | exact hG1.2 _ _ | exact hG.2 _ _ | exact b01_in _ | assumption | exact ⟨by omega, by omega⟩) (fun c3 => ?_) (fun c3 => ?_)
        · refine s_iconst dX9_laysRest_256 ?_
          refine s_iadd dX9_laysRest_257 ?_
          refine s_iastoreG dX9_laysRest_258 (rk_7_37 io_196) (by omega) (by omega) hG1 (by first | exact hG1.2 _ _ | exact hG.2 _ _ | exact b01_in _ | assumption | exact ⟨by omega, by omega⟩) (fun hG2 => ?_)
          refine s_iinc dX9_laysRest_259 rfl (by decide) rfl (L' := [_, _, _, _, _]) rfl ?_
          refine s_iinc dX9_laysRest_262 rfl (by decide) rfl (L' := [_, _, _, _, _]) rfl ?_
          refine s_goto (tgt := 212) dX9_laysRest_265 (by decide) ?_
          refine ih (p + 1) _ _ (by omega) (by omega) hG2 (fun x y a b => by rw [hs_ne _ (by omega)]; exact fr x y a b) (by rw [zhr_up p0, ← hw, if_pos c2]) (fun i i0 i1 => ?_) (fun i i0 i1 => by rw [hs_ne _ (by omega), fL _ _ (by omega)]; exact H0 i (by omega) i1)
          by_cases q : i = p
          · rw [q, if_pos c2, hs_eq]
            unfold hp_
            rw [← hw]
            first | rw [if_pos (by omega)] | rw [if_neg (by omega)]
          · rw [hs_ne _ (by omega), fL _ _ (by omega)]
            exact H i i0 (by omega)
        · refine s_iconst dX9_laysRest_252 ?_
          refine s_goto (tgt := 257) dX9_laysRest_253 (by decide) ?_
          refine s_iadd dX9_laysRest_257 ?_
          refine s_iastoreG dX9_laysRest_258 (rk_7_37 io_196) (by omega) (by omega) hG1 (by first | exact hG1.2 _ _ | exact hG.2 _ _ | exact b01_in _ | assumption | exact ⟨by omega, by omega⟩) (fun hG3 => ?_)
          refine s_iinc dX9_laysRest_259 rfl (by decide) rfl (L' := [_, _, _, _, _]) rfl ?_
          refine s_iinc dX9_laysRest_262 rfl (by decide) rfl (L' := [_, _, _, _, _]) rfl ?_
          refine s_goto (tgt := 212) dX9_laysRest_265 (by decide) ?_
          refine ih (p + 1) _ _ (by omega) (by omega) hG3 (fun x y a b => by rw [hs_ne _ (by omega)]; exact fr x y a b) (by rw [zhr_up p0, ← hw, if_pos c2]) (fun i i0 i1 => ?_) (fun i i0 i1 => by rw [hs_ne _ (by omega), fL _ _ (by omega)]; exact H0 i (by omega) i1)
          by_cases q : i = p
          · rw [q, if_pos c2, hs_eq]
            unfold hp_
            rw [← hw]
            first | rw [if_pos (by omega)] | rw [if_neg (by omega)]
          · rw [hs_ne _ (by omega), fL _ _ (by omega)]
            exact H i i0 (by omega)
set_option maxRecDepth 100000 in
set_option maxHeartbeats 4000000 in
theorem c_X9_laysRest {r : Int} (hd : 5 ≤ d) (M : MR_ h z) (er : h 196 34 = r) (r0 : 0 ≤ r) (r1 : r ≤ 1000000) (h6 : ∀ g : Int, 0 ≤ g → g < z 0 2 → h (196 + 18) (7 * g + 6) = 0 ∧ h (196 + 19) (7 * g + 6) = 0) (k : ∀ h1 : PH, G h1 → (∀ x y : Int, ¬ x = 196 + 16 → ¬ (196 + 21 ≤ x ∧ x ≤ 196 + 24) → ¬ (x = 196 + 18 ∧ y % 7 = 6) → ¬ (x = 196 + 19 ∧ y % 7 = 6) → ¬ (x = 196 + 20 ∧ y = 6) → ¬ (x = 196 ∧ (y = 35 ∨ y = 36)) → h1 x y = h x y) → (∀ g : Int, 0 ≤ g → g < z 0 2 → h1 (196 + 18) (7 * g + 6) = pt_ (zwr z) (z 0 2) r g ∧ h1 (196 + 19) (7 * g + 6) = pt_ (zwr z) (z 0 2) r g) → h1 196 35 = (if zsw z = 0 ∧ 0 < zhr z then r else 0) → h1 196 36 = (if zsw z = 0 ∧ ¬ 0 < zhr z then r else 0) → (∀ p : Int, 0 ≤ p → p < z 0 1 → h1 (196 + 21) p = if ¬ z 3 p = 0 ∧ 0 < zlv z p then hp_ (z 3) (zlv z) (zhr z) (if zsw z = 0 ∧ 0 < zhr z then r else 0) p else 0) → Q.1 none nN h1) : Cl_ yX9_laysRest MX9_laysRest d bc bs [(2, 196)] nN h Q := by
  refine s_enter pn_X9 rfl (Nat.le_of_ble_eq_true rfl) (L := [(2, _), (9, 0), (9, 0), (9, 0), (9, 0)]) rfl ?_
  have hG := M.1
  have I := mr_i M
  have hT := I.2.1
  have hP := I.2.2.1
  have hN := I.2.2.2.1
  have nn := M.2.1
  refine s_aload_n dX9_laysRest_0 rfl ?_
  refine s_iconst dX9_laysRest_1 ?_
  refine s_putiG 35 dX9_laysRest_2 fl_X9_391 kl_7 (by decide) rfl rfl io_196 (z := 35) rfl (by decide +kernel) hG (by first | exact hG.2 _ _ | exact b01_in _ | assumption | exact ⟨by omega, by omega⟩) (fun hG1 => ?_)
  refine s_aload_n dX9_laysRest_5 rfl ?_
  refine s_iconst dX9_laysRest_6 ?_
  refine s_putiG 36 dX9_laysRest_7 fl_X9_394 kl_7 (by decide) rfl rfl io_196 (z := 36) rfl (by decide +kernel) hG1 (by first | exact hG1.2 _ _ | exact hG.2 _ _ | exact b01_in _ | assumption | exact ⟨by omega, by omega⟩) (fun hG2 => ?_)
  refine s_iconst dX9_laysRest_10 ?_
  refine s_istore_n dX9_laysRest_11 (by decide) rfl (L' := [_, _, _, _, _]) rfl ?_
  refine lp_X9_resA (fun hA kA gA fA zA => ?_) 12 0 _ (Int.le_refl _) (by omega) hG2 (fun _ _ _ => rfl) (fun p p0 p1 => by omega)
  have hG := gA
  have fA2 : ∀ x y : Int, ¬ x = 196 + 21 → ¬ (x = 196 ∧ (y = 35 ∨ y = 36)) → hA x y = h x y := fun x y a b => by rw [fA x y a, hs_ne _ (by omega), hs_ne _ (by omega)]
  have iA : hA 196 35 = 0 := by rw [fA _ _ (by omega), hs_ne _ (by omega), hs_eq]
  have bA : hA 196 36 = 0 := by rw [fA _ _ (by omega), hs_eq]
  have MA := sc_M M gA (fun x y a b => fA2 x y (by omega) (by omega))
  refine s_iconst dX9_laysRest_31 ?_
  refine s_istore_n dX9_laysRest_32 (by decide) rfl (L' := [_, _, _, _, _]) rfl ?_
  refine s_iconst dX9_laysRest_33 ?_
  refine s_istore_n dX9_laysRest_34 (by decide) rfl (L' := [_, _, _, _, _]) rfl ?_
  refine lp_X9_resB (by omega) MA (fun hB aB gB gB9 fB wB HA => ?_) (z 0 2).toNat 0 0 hA (Int.le_refl _) (by omega) gA (fun _ _ _ _ => rfl) (fun i i0 i1 => by omega) (Or.inl ⟨rfl, fun i i0 i1 => by omega⟩)
  have hG := gB9
  have MB := sc_M MA gB9 (fun x y a b => fB x y (by omega) (by omega))
  have nn := MB.2.1
  have erB : hB 196 34 = r := by rw [fB _ _ (by omega) (by omega), fA2 _ _ (by omega) (by omega)]; exact er
  have aI : inI aB := by rcases HA with ⟨e, _⟩ | ⟨e, _⟩ <;> rw [e] <;> exact ⟨by decide, by decide⟩
  refine s_iload_n dX9_laysRest_105 rfl ?_
  refine s_if_eq (tgt := 181) dX9_laysRest_106 (by decide) (by first | exact hG.2 _ _ | exact b01_in _ | assumption | exact ⟨by omega, by omega⟩) (fun c1 => ?_) (fun c1 => ?_)
  · refine s_aload_n dX9_laysRest_181 rfl ?_
    refine s_callV (d' := d - 1) (bc' := 0) (bs' := 0) (as := []) dX9_laysRest_182 vf_X9_397 (dd_ (by omega) (by decide)) ⟨Nat.zero_le _, Nat.zero_le _⟩ rfl rfl (Nat.le_of_ble_eq_true rfl) kl_7 rfl io_196 ?_
    have hs : zsw z = 0 := by omega
    refine c_X9_heirMany (by omega) MB (fun hH gH fH => ?_)
    have hG1 := gH
    have hG := gH
    have MH := sc_M MB gH (sc_16 fH)
    have erH : hH 196 34 = r := (fH _ _ (by omega)).trans erB
    have iH : hH 196 35 = 0 := (fH _ _ (by omega)).trans ((fB _ _ (by omega) (by omega)).trans iA)
    have bH : hH 196 36 = 0 := (fH _ _ (by omega)).trans ((fB _ _ (by omega) (by omega)).trans bA)
    have FH : ∀ x y : Int, ¬ x = 196 + 16 → ¬ (196 + 21 ≤ x ∧ x ≤ 196 + 24) → ¬ (x = 196 ∧ (y = 35 ∨ y = 36)) → hH x y = h x y := fun x y a b c => by rw [fH x y a, fB x y a (by omega)]; exact fA2 x y (by omega) c
    have zH : ∀ p : Int, 0 ≤ p → p < 12 → hH (196 + 21) p = 0 := fun p a b => by rw [fH _ _ (by omega), fB _ _ (by omega) (by omega)]; exact zA p a b
    have zb := zhr_bd I
    have pz : ∀ g : Int, pt_ (zwr z) (z 0 2) r g = 0 := fun g => by unfold pt_; exact if_pos hs
    refine s_istore_n dX9_laysRest_185 (by decide) rfl (L' := [_, _, _, _, _]) rfl ?_
    refine s_iload_n dX9_laysRest_186 rfl ?_
    refine s_if_ne (tgt := 199) dX9_laysRest_187 (by decide) (by first | exact hG1.2 _ _ | exact hG.2 _ _ | exact b01_in _ | assumption | exact ⟨by omega, by omega⟩) (fun c2 => ?_) (fun c2 => ?_)
    · refine s_aload_n dX9_laysRest_199 rfl ?_
      refine s_aload_n dX9_laysRest_200 rfl ?_
      refine s_geti dX9_laysRest_201 fl_X9_385 kl_7 (by decide) rfl io_196 (z := 34) rfl ?_
      rw [erH]
      refine s_putiG 35 dX9_laysRest_204 fl_X9_391 kl_7 (by decide) rfl rfl io_196 (z := 35) rfl (by decide +kernel) hG1 (by first | exact hG1.2 _ _ | exact hG.2 _ _ | exact b01_in _ | assumption | exact ⟨by omega, by omega⟩) (fun hG2 => ?_)
      refine s_iconst dX9_laysRest_207 ?_
      refine s_istore_n dX9_laysRest_208 (by decide) rfl (L' := [_, _, _, _, _]) rfl ?_
      refine s_iconst dX9_laysRest_209 ?_
      refine s_istore dX9_laysRest_210 (by decide) rfl (L' := [_, _, _, _, _]) rfl ?_
      refine lp_X9_resD (r := r) (by omega) (sc_M MH hG2 (fun x y a b => hs_ne _ (by omega))) (by rw [hs_ne _ (by omega)]; exact erH) r0 r1 (by omega) (fun hD gD fD eD => ?_) (z 0 1).toNat 0 0 _ (Int.le_refl _) (by omega) hG2 (fun _ _ _ _ => rfl) (by rfl) (fun i i0 i1 => by omega) (fun i i0 i1 => by rw [hs_ne _ (by omega)]; exact zH i i0 i1)
      have hpos : 0 < zhr z := by omega
      refine k _ gD (fun x y a b c e f w => ?_) (fun g g0 g1 => ?_) ?_ ?_ (fun p p0 p1 => ?_)
      · rw [fD x y a (by omega), hs_ne _ (by omega)]; exact FH x y a b w
      · rw [fD _ _ (by omega) (by omega), fD _ _ (by omega) (by omega), hs_ne _ (by omega), hs_ne _ (by omega), FH _ _ (by omega) (by omega) (by omega), FH _ _ (by omega) (by omega) (by omega), pz]
        exact h6 g g0 g1
      · rw [fD _ _ (by omega) (by omega), hs_eq, if_pos ⟨hs, hpos⟩]
      · rw [fD _ _ (by omega) (by omega), hs_ne _ (by omega), bH, if_neg (by omega)]
      · rw [eD p p0 p1, show (if zsw z = 0 ∧ 0 < zhr z then r else 0) = r from if_pos ⟨hs, hpos⟩]
    · refine s_aload_n dX9_laysRest_190 rfl ?_
      refine s_aload_n dX9_laysRest_191 rfl ?_
      refine s_geti dX9_laysRest_192 fl_X9_385 kl_7 (by decide) rfl io_196 (z := 34) rfl ?_
      rw [erH]
      refine s_putiG 36 dX9_laysRest_195 fl_X9_394 kl_7 (by decide) rfl rfl io_196 (z := 36) rfl (by decide +kernel) hG1 (by first | exact hG1.2 _ _ | exact hG.2 _ _ | exact b01_in _ | assumption | exact ⟨by omega, by omega⟩) (fun hG3 => ?_)
      have hz : zhr z = 0 := by omega
      refine s_return dX9_laysRest_198 rfl (k _ hG3 (fun x y a b c e f w => ?_) (fun g g0 g1 => ?_) ?_ ?_ (fun p p0 p1 => ?_))
      · rw [hs_ne _ (by omega)]; exact FH x y a b w
      · rw [hs_ne _ (by omega), hs_ne _ (by omega), FH _ _ (by omega) (by omega) (by omega), FH _ _ (by omega) (by omega) (by omega), pz]
        exact h6 g g0 g1
      · rw [hs_ne _ (by omega), iH, if_neg (by omega)]
      · rw [hs_eq, if_pos ⟨hs, by omega⟩]
      · rw [hs_ne _ (by omega), zH p p0 (by omega), if_neg (fun q => absurd (zhr_ge p0 p1 q) (by omega))]
  · refine s_aload_n dX9_laysRest_109 rfl ?_
    refine s_aload_n dX9_laysRest_110 rfl ?_
    refine s_geti dX9_laysRest_111 fl_X9_385 kl_7 (by decide) rfl io_196 (z := 34) rfl ?_
    refine s_callV (d' := d - 1) (bc' := 0) (bs' := 0) (as := [_]) dX9_laysRest_114 vf_X9_368 (dd_ (by omega) (by decide)) ⟨Nat.zero_le _, Nat.zero_le _⟩ rfl rfl (Nat.le_of_ble_eq_true rfl) kl_7 rfl io_196 ?_
    have hs : 0 < zsw z := by omega
    rw [erB]
    refine c_X9_parted (W := zwr z) MB (fun g a b => ⟨wB g a b, (zwr_bd I a b).1, by have := zwr_bd I a b; omega⟩) r0 r1 hs (fun hP gP fP eP => ?_)
    have hG := gP
    have MP := sc_M MB gP (fun x y a b => fP x y (by omega) (by omega))
    refine s_iconst dX9_laysRest_117 ?_
    refine s_istore_n dX9_laysRest_118 (by decide) rfl (L' := [_, _, _, _, _]) rfl ?_
    refine lp_X9_resC MP (X := pt_ (zwr z) (z 0 2) r) (fun g a b => ⟨eP g a b, by have := pt_le (W := zwr z) (n := z 0 2) (m := r) (fun g a b => (zwr_bd I a b).1) r0 g a b; exact ⟨by omega, by omega⟩⟩) (fun hC gC9 gC fC eC => ?_) (z 0 2).toNat 0 hP (Int.le_refl _) (by omega) gP (fun _ _ _ _ => rfl) (fun i i0 i1 => by omega)
    have hG := gC
    have erC : hC 196 34 = r := by rw [fC _ _ (by omega) (by omega), fP _ _ (by omega) (by omega)]; exact erB
    refine s_aload_n dX9_laysRest_169 rfl ?_
    refine s_getr dX9_laysRest_170 fl_X9_73 kl_7 (by decide) rfl io_196 (z := 32) rfl (rf_7_32 hG.1 io_196) (rk_7_32 io_196).1 ?_
    refine s_bipush dX9_laysRest_173 (by decide) ?_
    refine s_aload_n dX9_laysRest_175 rfl ?_
    refine s_geti dX9_laysRest_176 fl_X9_385 kl_7 (by decide) rfl io_196 (z := 34) rfl ?_
    rw [erC]
    refine s_iastoreG dX9_laysRest_179 (rk_7_32 io_196) (by omega) (by omega) hG (by first | exact hG.2 _ _ | exact b01_in _ | assumption | exact ⟨by omega, by omega⟩) (fun hG1 => ?_)
    refine s_return dX9_laysRest_180 rfl (k _ hG1 (fun x y a b c e f w => ?_) (fun g g0 g1 => ?_) ?_ ?_ (fun p p0 p1 => ?_))
    · rw [hs_ne _ (by omega), fC x y c e, fP x y (by omega) (by omega), fB x y a (by omega)]; exact fA2 x y (by omega) w
    · rw [hs_ne _ (by omega), hs_ne _ (by omega)]
      exact eC g g0 g1
    · rw [hs_ne _ (by omega), fC _ _ (by omega) (by omega), fP _ _ (by omega) (by omega), fB _ _ (by omega) (by omega), iA, if_neg (by omega)]
    · rw [hs_ne _ (by omega), fC _ _ (by omega) (by omega), fP _ _ (by omega) (by omega), fB _ _ (by omega) (by omega), bA, if_neg (by omega)]
    · rw [hs_ne _ (by omega), fC _ _ (by omega) (by omega), fP _ _ (by omega) (by omega), fB _ _ (by omega) (by omega), zA p p0 (by omega)]
      by_cases q : ¬ z 3 p = 0 ∧ 0 < zlv z p
      · rw [if_pos q, if_neg (by omega), hp_0 (zhr_ge p0 p1 q)]
      · rw [if_neg q]
end X9H2
