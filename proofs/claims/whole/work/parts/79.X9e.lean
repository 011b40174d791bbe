/-! the reference: what each gift is due -/
theorem zfl_up {z : PH} {g t : Int} (g0 : 0 ≤ g) : zfl z (g + 1).toNat t = if z 5 g = 2 ∧ zlp z g = 0 ∧ z 7 g = t then zfl z g.toNat t - min (z 8 g) (zfl z g.toNat t) else zfl z g.toNat t := by
  unfold zfl
  rw [show (g + 1).toNat = g.toNat + 1 by omega, fzk, show ((g.toNat : Nat) : Int) = g by omega]
theorem zhr_up {z : PH} {p : Int} (p0 : 0 ≤ p) : sumI (fun j => if ¬ z 3 j = 0 ∧ 0 < zlv z j then (1 : Int) else 0) 0 (p + 1).toNat = sumI (fun j => if ¬ z 3 j = 0 ∧ 0 < zlv z j then (1 : Int) else 0) 0 p.toNat + if ¬ z 3 p = 0 ∧ 0 < zlv z p then 1 else 0 := sumI_up _ p0
section X9EH
variable {z : PH} {g c : Int}
theorem zdu_l (h : ¬ zlp z g = 0) : zdu z g c = 0 := by unfold zdu; rw [if_pos h]
theorem zdu_0 (h : zlp z g = 0) (k : z 5 g = 0) : zdu z g c = if c = 0 then zbr z (z 7 g) else if c = 4 ∧ z 1 60 = 1 then max 0 (z 1 (z 7 g) - zbr z (z 7 g)) else 0 := by unfold zdu; rw [if_neg (fun q => q h), if_pos k]
theorem zdu_1 (h : zlp z g = 0) (k : z 5 g = 1) : zdu z g c = if c = z 9 g then z 8 g else 0 := by unfold zdu; rw [if_neg (fun q => q h), if_neg (by omega), if_pos k]
theorem zdu_2 (h : zlp z g = 0) (k : z 5 g = 2) : zdu z g c = if c = 0 then min (z 8 g) (zfl z g.toNat (z 7 g)) else if c = z 9 g then z 8 g - min (z 8 g) (zfl z g.toNat (z 7 g)) else 0 := by unfold zdu; rw [if_neg (fun q => q h), if_neg (by omega), if_neg (by omega), if_pos k]
theorem zdu_3 (h : zlp z g = 0) (k : z 5 g = 3) : zdu z g c = 0 := by unfold zdu; rw [if_neg (fun q => q h), if_neg (by omega), if_neg (by omega), if_neg (by omega)]
end X9EH
section X9E
variable {d bc bs : Nat} {Q : PQ} {h h0 z : PH}
set_option maxRecDepth 100000 in
set_option maxHeartbeats 4000000 in
theorem lp_X9_sumOf {a c : Int} (A : isA nN a 0 84) (M : MR_ h z) (c0 : 0 ≤ c) (c7 : c < 7) (k : Q.1 (some (0, sumI (fun g => h a (7 * g + c)) 0 (z 0 2).toNat)) nN h) : ∀ (m : Nat) (g w : Int), (0 ≤ g) → (g + m = z 0 2) → (w = sumI (fun g => h a (7 * g + c)) 0 g.toNat) → S_ MX9_sumOf d bc bs Q 5 [(2, 196), (2, a), (0, c), (0, w), (0, g)] [] nN h := by
  intro m
  induction m with
  | zero =>
    intro g w g0 gm hw
    have hG := M.1
    have I := mr_i M
    have hT := I.2.1
    have hP := I.2.2.1
    have hN := I.2.2.2.1
    have nn := M.2.1
    refine s_iload dX9_sumOf_5 rfl ?_
    refine s_aload_n dX9_sumOf_7 rfl ?_
    refine s_geti dX9_sumOf_8 fl_X9_275 kl_7 (by decide) rfl io_196 (z := 7) rfl ?_
    refine s_icmp_ge (tgt := 32) dX9_sumOf_11 (by decide) (by first | exact hG.2 _ _ | exact b01_in _ | assumption | exact ⟨by omega, by omega⟩) (by first | exact hG.2 _ _ | exact b01_in _ | assumption | exact ⟨by omega, by omega⟩) (fun c1 => ?_) (fun c1 => ?_)
    · refine s_iload_n dX9_sumOf_32 rfl ?_
      rw [hw, show g = z 0 2 by omega]
      exact s_ireturn dX9_sumOf_33 rfl k
    · exact absurd c1 (by omega)
  | succ m ih =>
    intro g w g0 gm hw
    have hG := M.1
    have I := mr_i M
    have hT := I.2.1
    have hP := I.2.2.1
    have hN := I.2.2.2.1
    have nn := M.2.1
    refine s_iload dX9_sumOf_5 rfl ?_
    refine s_aload_n dX9_sumOf_7 rfl ?_
    refine s_geti dX9_sumOf_8 fl_X9_275 kl_7 (by decide) rfl io_196 (z := 7) rfl ?_
    refine s_icmp_ge (tgt := 32) dX9_sumOf_11 (by decide) (by first | exact hG.2 _ _ | exact b01_in _ | assumption | exact ⟨by omega, by omega⟩) (by first | exact hG.2 _ _ | exact b01_in _ | assumption | exact ⟨by omega, by omega⟩) (fun c1 => ?_) (fun c1 => ?_)
    · exact absurd c1 (by omega)
    · refine s_iload_n dX9_sumOf_14 rfl ?_
      refine s_aload_n dX9_sumOf_15 rfl ?_
      refine s_bipush dX9_sumOf_16 (by decide) ?_
      refine s_iload dX9_sumOf_18 rfl ?_
      refine s_imul dX9_sumOf_20 ?_
      refine s_iload_n dX9_sumOf_21 rfl ?_
      refine s_iadd dX9_sumOf_22 ?_
      refine s_iaload dX9_sumOf_23 A (by omega) (by omega) ?_
      refine s_iadd dX9_sumOf_24 ?_
      refine s_istore_n dX9_sumOf_25 (by decide) rfl (L' := [_, _, _, _, _]) rfl ?_
      refine s_iinc dX9_sumOf_26 rfl (by decide) rfl (L' := [_, _, _, _, _]) rfl ?_
      refine s_goto (tgt := 5) dX9_sumOf_29 (by decide) ?_
      exact ih (g + 1) _ (by omega) (by omega) (by rw [sumI_up _ g0, ← hw])
set_option maxRecDepth 100000 in
set_option maxHeartbeats 4000000 in
theorem c_X9_sumOf {a c : Int} (A : isA nN a 0 84) (M : MR_ h z) (c0 : 0 ≤ c) (c7 : c < 7) (k : Q.1 (some (0, sumI (fun g => h a (7 * g + c)) 0 (z 0 2).toNat)) nN h) : Cl_ yX9_sumOf MX9_sumOf d bc bs [(2, 196), (2, a), (0, c)] nN h Q := by
  refine s_enter pn_X9 rfl (Nat.le_of_ble_eq_true rfl) (L := [(2, _), (2, _), (0, _), (9, 0), (9, 0)]) rfl ?_
  have hG := M.1
  have I := mr_i M
  have hT := I.2.1
  have hP := I.2.2.1
  have hN := I.2.2.2.1
  have nn := M.2.1
  refine s_iconst dX9_sumOf_0 ?_
  refine s_istore_n dX9_sumOf_1 (by decide) rfl (L' := [_, _, _, _, _]) rfl ?_
  refine s_iconst dX9_sumOf_2 ?_
  refine s_istore dX9_sumOf_3 (by decide) rfl (L' := [_, _, _, _, _]) rfl ?_
  exact lp_X9_sumOf A M c0 c7 k (z 0 2).toNat 0 0 (by omega) (by omega) rfl
set_option maxRecDepth 100000 in
set_option maxHeartbeats 4000000 in
theorem lp_X9_inAll {a g u : Int} (A : isA nN a 0 84) (hG : G h) (g0 : 0 ≤ g) (g1 : g < 12) (u7 : u ≤ 7) (k : Q.1 (some (0, sumI (fun c => h a (7 * g + c)) 0 u.toNat)) nN h) : ∀ (m : Nat) (c w : Int), (0 ≤ c) → (c + m = u) → (w = sumI (fun c => h a (7 * g + c)) 0 c.toNat) → S_ MX9_inAll d bc bs Q 6 [(2, 196), (0, g), (0, u), (2, a), (0, w), (0, c)] [] nN h := by
  intro m
  induction m with
  | zero =>
    intro c w c0 cm hw
    refine s_iload dX9_inAll_6 rfl ?_
    refine s_iload_n dX9_inAll_8 rfl ?_
    refine s_icmp_ge (tgt := 32) dX9_inAll_9 (by decide) (by first | exact hG.2 _ _ | exact b01_in _ | assumption | exact ⟨by omega, by omega⟩) (by first | exact hG.2 _ _ | exact b01_in _ | assumption | exact ⟨by omega, by omega⟩) (fun c1 => ?_) (fun c1 => ?_)
    · refine s_iload dX9_inAll_32 rfl ?_
      rw [hw, show c = u by omega]
      exact s_ireturn dX9_inAll_34 rfl k
    · exact absurd c1 (by omega)
  | succ m ih =>
    intro c w c0 cm hw
    refine s_iload dX9_inAll_6 rfl ?_
    refine s_iload_n dX9_inAll_8 rfl ?_
    refine s_icmp_ge (tgt := 32) dX9_inAll_9 (by decide) (by first | exact hG.2 _ _ | exact b01_in _ | assumption | exact ⟨by omega, by omega⟩) (by first | exact hG.2 _ _ | exact b01_in _ | assumption | exact ⟨by omega, by omega⟩) (fun c1 => ?_) (fun c1 => ?_)
    · exact absurd c1 (by omega)
    · refine s_iload dX9_inAll_12 rfl ?_
      refine s_aload_n dX9_inAll_14 rfl ?_
      refine s_bipush dX9_inAll_15 (by decide) ?_
      refine s_iload_n dX9_inAll_17 rfl ?_
      refine s_imul dX9_inAll_18 ?_
      refine s_iload dX9_inAll_19 rfl ?_
      refine s_iadd dX9_inAll_21 ?_
      refine s_iaload dX9_inAll_22 A (by omega) (by omega) ?_
      refine s_iadd dX9_inAll_23 ?_
      refine s_istore dX9_inAll_24 (by decide) rfl (L' := [_, _, _, _, _, _]) rfl ?_
      refine s_iinc dX9_inAll_26 rfl (by decide) rfl (L' := [_, _, _, _, _, _]) rfl ?_
      refine s_goto (tgt := 6) dX9_inAll_29 (by decide) ?_
      exact ih (c + 1) _ (by omega) (by omega) (by rw [sumI_up _ c0, ← hw])
set_option maxRecDepth 100000 in
set_option maxHeartbeats 4000000 in
theorem c_X9_inAll {a g u : Int} (A : isA nN a 0 84) (hG : G h) (g0 : 0 ≤ g) (g1 : g < 12) (u0 : 0 ≤ u) (u7 : u ≤ 7) (k : Q.1 (some (0, sumI (fun c => h a (7 * g + c)) 0 u.toNat)) nN h) : Cl_ yX9_inAll MX9_inAll d bc bs [(2, 196), (0, g), (0, u), (2, a)] nN h Q := by
  refine s_enter pn_X9 rfl (Nat.le_of_ble_eq_true rfl) (L := [(2, _), (0, _), (0, _), (2, _), (9, 0), (9, 0)]) rfl ?_
  refine s_iconst dX9_inAll_0 ?_
  refine s_istore dX9_inAll_1 (by decide) rfl (L' := [_, _, _, _, _, _]) rfl ?_
  refine s_iconst dX9_inAll_3 ?_
  refine s_istore dX9_inAll_4 (by decide) rfl (L' := [_, _, _, _, _, _]) rfl ?_
  exact lp_X9_inAll A hG g0 g1 u7 k u.toNat 0 0 (by omega) (by omega) rfl
set_option maxRecDepth 100000 in
set_option maxHeartbeats 4000000 in
theorem c_X9_isHeir {p : Int} (hd : 3 ≤ d) (M : MR_ h z) (p0 : 0 ≤ p) (p1 : p < z 0 1) (k : ∀ h1 : PH, G h1 → (∀ x y : Int, ¬ x = 196 + 16 → h1 x y = h x y) → Q.1 (some (0, b01 (¬ z 3 p = 0 ∧ 0 < zlv z p))) nN h1) : Cl_ yX9_isHeir MX9_isHeir d bc bs [(2, 196), (0, p)] nN h Q := by
  refine s_enter pn_X9 rfl (Nat.le_of_ble_eq_true rfl) (L := [(2, _), (0, _)]) rfl ?_
  have hG := M.1
  have I := mr_i M
  have hT := I.2.1
  have hP := I.2.2.1
  have hN := I.2.2.2.1
  have nn := M.2.1
  refine s_aload_n dX9_isHeir_0 rfl ?_
  refine s_callV (d' := d - 1) (bc' := 0) (bs' := 0) (as := []) dX9_isHeir_1 vf_X9_311 (dd_ (by omega) (by decide)) ⟨Nat.zero_le _, Nat.zero_le _⟩ rfl rfl (Nat.le_of_ble_eq_true rfl) kl_7 rfl io_196 ?_
  refine c_X9_laysStocks (by omega) M (fun hhG1 ghG1 fhG1 lhG1 => ?_)
  have hG1 := ghG1
  have M := sc_M M ghG1 (sc_16 fhG1)
  have e3 := (mr_c M p p0 p1).2
  have e9 := lhG1 p p0 p1
  have k9 := k _ ghG1 fhG1
  refine s_aload_n dX9_isHeir_4 rfl ?_
  refine s_getr dX9_isHeir_5 fl_X9_28 kl_7 (by decide) rfl io_196 (z := 11) rfl (rf_7_11 hG1.1 io_196) (rk_7_11 io_196).1 ?_
  refine s_iload_n dX9_isHeir_8 rfl ?_
  refine s_baload2 dX9_isHeir_9 (rk_7_11 io_196) (by omega) (by omega) ?_
  refine s_if_eq (tgt := 26) dX9_isHeir_10 (by decide) (by first | exact hG1.2 _ _ | exact hG.2 _ _ | exact b01_in _ | assumption | exact ⟨by omega, by omega⟩) (fun c1 => ?_) (fun c1 => ?_)
  · refine s_iconst dX9_isHeir_26 ?_
    refine s_zreturn dX9_isHeir_27 rfl (by first | exact Or.inl rfl | exact Or.inr rfl) ?_
    first | (rw [b01_t (c := ¬ z 3 p = 0 ∧ 0 < zlv z p) (by omega)] at k9; exact k9) | (rw [b01_f (c := ¬ z 3 p = 0 ∧ 0 < zlv z p) (by omega)] at k9; exact k9)
  · refine s_aload_n dX9_isHeir_13 rfl ?_
    refine s_getr dX9_isHeir_14 fl_X9_61 kl_7 (by decide) rfl io_196 (z := 28) rfl (rf_7_28 hG1.1 io_196) (rk_7_28 io_196).1 ?_
    refine s_iload_n dX9_isHeir_17 rfl ?_
    refine s_iaload dX9_isHeir_18 (rk_7_28 io_196) (by omega) (by omega) ?_
    refine s_if_le (tgt := 26) dX9_isHeir_19 (by decide) (by first | exact hG1.2 _ _ | exact hG.2 _ _ | exact b01_in _ | assumption | exact ⟨by omega, by omega⟩) (fun c2 => ?_) (fun c2 => ?_)
    · refine s_iconst dX9_isHeir_26 ?_
      refine s_zreturn dX9_isHeir_27 rfl (by first | exact Or.inl rfl | exact Or.inr rfl) ?_
      first | (rw [b01_t (c := ¬ z 3 p = 0 ∧ 0 < zlv z p) (by omega)] at k9; exact k9) | (rw [b01_f (c := ¬ z 3 p = 0 ∧ 0 < zlv z p) (by omega)] at k9; exact k9)
    · refine s_iconst dX9_isHeir_22 ?_
      refine s_goto (tgt := 27) dX9_isHeir_23 (by decide) ?_
      refine s_zreturn dX9_isHeir_27 rfl (by first | exact Or.inl rfl | exact Or.inr rfl) ?_
      first | (rw [b01_t (c := ¬ z 3 p = 0 ∧ 0 < zlv z p) (by omega)] at k9; exact k9) | (rw [b01_f (c := ¬ z 3 p = 0 ∧ 0 < zlv z p) (by omega)] at k9; exact k9)
set_option maxRecDepth 100000 in
set_option maxHeartbeats 4000000 in
theorem lp_X9_heirMany  (hd : 4 ≤ d) (M0 : MR_ h0 z) (k : ∀ h : PH, G h → (∀ x y : Int, ¬ x = 196 + 16 → h x y = h0 x y) → Q.1 (some (0, zhr z)) nN h) : ∀ (m : Nat) (p w : Int) (h : PH), (0 ≤ p) → (p + m = z 0 1) → (w = sumI (fun j => if ¬ z 3 j = 0 ∧ 0 < zlv z j then (1 : Int) else 0) 0 p.toNat) → (G h) → (∀ x y : Int, ¬ x = 196 + 16 → h x y = h0 x y) → S_ MX9_heirMany d bc bs Q 4 [(2, 196), (0, w), (0, p)] [] nN h := by
  intro m
  induction m with
  | zero =>
    intro p w h p0 pm hw gG fr
    have hG := gG
    have M := sc_M M0 gG (sc_16 fr)
    have I := mr_i M
    have hT := I.2.1
    have hP := I.2.2.1
    have hN := I.2.2.2.1
    have nn := M.2.1
    refine s_iload_n dX9_heirMany_4 rfl ?_
    refine s_aload_n dX9_heirMany_5 rfl ?_
    refine s_geti dX9_heirMany_6 fl_X9_281 kl_7 (by decide) rfl io_196 (z := 6) rfl ?_
    refine s_icmp_ge (tgt := 34) dX9_heirMany_9 (by decide) (by first | exact hG.2 _ _ | exact b01_in _ | assumption | exact ⟨by omega, by omega⟩) (by first | exact hG.2 _ _ | exact b01_in _ | assumption | exact ⟨by omega, by omega⟩) (fun c1 => ?_) (fun c1 => ?_)
    · refine s_iload_n dX9_heirMany_34 rfl ?_
      rw [hw, show p = z 0 1 by omega]
      exact s_ireturn dX9_heirMany_35 rfl (k _ hG fr)
    · exact absurd c1 (by omega)
  | succ m ih =>
    intro p w h p0 pm hw gG fr
    have hG := gG
    have M := sc_M M0 gG (sc_16 fr)
    have I := mr_i M
    have hT := I.2.1
    have hP := I.2.2.1
    have hN := I.2.2.2.1
    have nn := M.2.1
    refine s_iload_n dX9_heirMany_4 rfl ?_
    refine s_aload_n dX9_heirMany_5 rfl ?_
    refine s_geti dX9_heirMany_6 fl_X9_281 kl_7 (by decide) rfl io_196 (z := 6) rfl ?_
    refine s_icmp_ge (tgt := 34) dX9_heirMany_9 (by decide) (by first | exact hG.2 _ _ | exact b01_in _ | assumption | exact ⟨by omega, by omega⟩) (by first | exact hG.2 _ _ | exact b01_in _ | assumption | exact ⟨by omega, by omega⟩) (fun c1 => ?_) (fun c1 => ?_)
    · exact absurd c1 (by omega)
    · refine s_iload_n dX9_heirMany_12 rfl ?_
      refine s_aload_n dX9_heirMany_13 rfl ?_
      refine s_iload_n dX9_heirMany_14 rfl ?_
      refine s_callV (d' := d - 1) (bc' := 0) (bs' := 0) (as := [_]) dX9_heirMany_15 vf_X9_400 (dd_ (by omega) (by decide)) ⟨Nat.zero_le _, Nat.zero_le _⟩ rfl rfl (Nat.le_of_ble_eq_true rfl) kl_7 rfl io_196 ?_
      refine c_X9_isHeir (by omega) M (by omega) (by omega) (fun hhG1 ghG1 fhG1 => ?_)
      have hG1 := ghG1
      have M := sc_M M ghG1 (sc_16 fhG1)
      have fr := fun x y (hx : ¬ x = 196 + 16) => (fhG1 x y hx).trans (fr x y hx)
      refine s_if_eq (tgt := 25) dX9_heirMany_18 (by decide) (by first | exact hG1.2 _ _ | exact hG.2 _ _ | exact b01_in _ | assumption | exact ⟨by omega, by omega⟩) (fun c2 => ?_) (fun c2 => ?_)
      · have c2 := b01_0.mp c2
        refine s_iconst dX9_heirMany_25 ?_
        refine s_iadd dX9_heirMany_26 ?_
        refine s_istore_n dX9_heirMany_27 (by decide) rfl (L' := [_, _, _]) rfl ?_
        refine s_iinc dX9_heirMany_28 rfl (by decide) rfl (L' := [_, _, _]) rfl ?_
        refine s_goto (tgt := 4) dX9_heirMany_31 (by decide) ?_
        exact ih (p + 1) _ _ (by omega) (by omega) (by rw [zhr_up p0, ← hw]; first | rw [if_pos (by assumption)] | rw [if_neg (by assumption)]) hG1 fr
      · have c2 := b01_n.mp c2
        refine s_iconst dX9_heirMany_21 ?_
        refine s_goto (tgt := 26) dX9_heirMany_22 (by decide) ?_
        refine s_iadd dX9_heirMany_26 ?_
        refine s_istore_n dX9_heirMany_27 (by decide) rfl (L' := [_, _, _]) rfl ?_
        refine s_iinc dX9_heirMany_28 rfl (by decide) rfl (L' := [_, _, _]) rfl ?_
        refine s_goto (tgt := 4) dX9_heirMany_31 (by decide) ?_
        exact ih (p + 1) _ _ (by omega) (by omega) (by rw [zhr_up p0, ← hw]; first | rw [if_pos (by assumption)] | rw [if_neg (by assumption)]) hG1 fr
set_option maxRecDepth 100000 in
set_option maxHeartbeats 4000000 in
theorem c_X9_heirMany  (hd : 4 ≤ d) (M : MR_ h z) (k : ∀ h1 : PH, G h1 → (∀ x y : Int, ¬ x = 196 + 16 → h1 x y = h x y) → Q.1 (some (0, zhr z)) nN h1) : Cl_ yX9_heirMany MX9_heirMany d bc bs [(2, 196)] nN h Q := by
  refine s_enter pn_X9 rfl (Nat.le_of_ble_eq_true rfl) (L := [(2, _), (9, 0), (9, 0)]) rfl ?_
  have hG := M.1
  have I := mr_i M
  have hT := I.2.1
  have hP := I.2.2.1
  have hN := I.2.2.2.1
  have nn := M.2.1
  refine s_iconst dX9_heirMany_0 ?_
  refine s_istore_n dX9_heirMany_1 (by decide) rfl (L' := [_, _, _]) rfl ?_
  refine s_iconst dX9_heirMany_2 ?_
  refine s_istore_n dX9_heirMany_3 (by decide) rfl (L' := [_, _, _]) rfl ?_
  exact lp_X9_heirMany hd M k (z 0 1).toNat 0 0 h (by omega) (by omega) rfl hG (fun _ _ _ => rfl)
set_option maxRecDepth 100000 in
set_option maxHeartbeats 4000000 in
theorem lp_X9_leftOf {t u : Int} (hd : 4 ≤ d) (M0 : MR_ h0 z) (t0 : 0 ≤ t) (t1 : t < z 0 0) (u1 : u ≤ z 0 2) (k : ∀ h : PH, G h → (∀ x y : Int, ¬ x = 196 + 16 → h x y = h0 x y) → Q.1 (some (0, zfl z u.toNat t)) nN h) : ∀ (m : Nat) (g w : Int) (h : PH), (0 ≤ g) → (g + m = u) → (w = zfl z g.toNat t) → (G h) → (∀ x y : Int, ¬ x = 196 + 16 → h x y = h0 x y) → S_ MX9_leftOf d bc bs Q 9 [(2, 196), (0, t), (0, u), (0, w), (0, g)] [] nN h := by
  intro m
  induction m with
  | zero =>
    intro g w h g0 gm hw gG fr
    have hG := gG
    have M := sc_M M0 gG (sc_16 fr)
    have I := mr_i M
    have hT := I.2.1
    have hP := I.2.2.1
    have hN := I.2.2.2.1
    have nn := M.2.1
    have wb := zfl_bd I t0 (by omega) (k := g.toNat) (by omega)
    refine s_iload dX9_leftOf_9 rfl ?_
    refine s_iload_n dX9_leftOf_11 rfl ?_
    refine s_icmp_ge (tgt := 77) dX9_leftOf_12 (by decide) (by first | exact hG.2 _ _ | exact b01_in _ | assumption | exact ⟨by omega, by omega⟩) (by first | exact hG.2 _ _ | exact b01_in _ | assumption | exact ⟨by omega, by omega⟩) (fun c1 => ?_) (fun c1 => ?_)
    · refine s_iload_n dX9_leftOf_77 rfl ?_
      rw [hw, show g = u by omega]
      exact s_ireturn dX9_leftOf_78 rfl (k _ hG fr)
    · exact absurd c1 (by omega)
  | succ m ih =>
    intro g w h g0 gm hw gG fr
    have hG := gG
    have M := sc_M M0 gG (sc_16 fr)
    have I := mr_i M
    have hT := I.2.1
    have hP := I.2.2.1
    have hN := I.2.2.2.1
    have nn := M.2.1
    have wb := zfl_bd I t0 (by omega) (k := g.toNat) (by omega)
    refine s_iload dX9_leftOf_9 rfl ?_
    refine s_iload_n dX9_leftOf_11 rfl ?_
    refine s_icmp_ge (tgt := 77) dX9_leftOf_12 (by decide) (by first | exact hG.2 _ _ | exact b01_in _ | assumption | exact ⟨by omega, by omega⟩) (by first | exact hG.2 _ _ | exact b01_in _ | assumption | exact ⟨by omega, by omega⟩) (fun c1 => ?_) (fun c1 => ?_)
    · exact absurd c1 (by omega)
    · refine s_aload_n dX9_leftOf_15 rfl ?_
      refine s_iload dX9_leftOf_16 rfl ?_
      refine s_iconst dX9_leftOf_18 ?_
      refine s_callV (d' := d - 1) (bc' := 0) (bs' := 0) (as := [_, _]) dX9_leftOf_19 vf_X9_317 (dd_ (by omega) (by decide)) ⟨Nat.zero_le _, Nat.zero_le _⟩ rfl rfl (Nat.le_of_ble_eq_true rfl) kl_7 rfl io_196 ?_
      have gg := I.2.2.2.2.2 g g0 (by omega)
      refine c_X9_of M (by omega) (by omega) (by omega) (by omega) (j := 5) (by omega) ?_
      refine s_iconst dX9_leftOf_22 ?_
      refine s_icmp_ne (tgt := 71) dX9_leftOf_23 (by decide) (by first | exact hG.2 _ _ | exact b01_in _ | assumption | exact ⟨by omega, by omega⟩) (by first | exact hG.2 _ _ | exact b01_in _ | assumption | exact ⟨by omega, by omega⟩) (fun c2 => ?_) (fun c2 => ?_)
      · refine s_iinc dX9_leftOf_71 rfl (by decide) rfl (L' := [_, _, _, _, _]) rfl ?_
        refine s_goto (tgt := 9) dX9_leftOf_74 (by decide) ?_
        exact ih (g + 1) _ _ (by omega) (by omega) (by rw [zfl_up g0, ← hw]; first | (rw [if_neg (by omega)]; done) | (rw [if_pos (by omega)]; omega)) hG fr
      · refine s_aload_n dX9_leftOf_26 rfl ?_
        refine s_iload dX9_leftOf_27 rfl ?_
        refine s_iconst dX9_leftOf_29 ?_
        refine s_callV (d' := d - 1) (bc' := 0) (bs' := 0) (as := [_, _]) dX9_leftOf_30 vf_X9_317 (dd_ (by omega) (by decide)) ⟨Nat.zero_le _, Nat.zero_le _⟩ rfl rfl (Nat.le_of_ble_eq_true rfl) kl_7 rfl io_196 ?_
        refine c_X9_of M (by omega) (by omega) (by omega) (by omega) (j := 7) (by omega) ?_
        refine s_iload_n dX9_leftOf_33 rfl ?_
        refine s_icmp_ne (tgt := 71) dX9_leftOf_34 (by decide) (by first | exact hG.2 _ _ | exact b01_in _ | assumption | exact ⟨by omega, by omega⟩) (by first | exact hG.2 _ _ | exact b01_in _ | assumption | exact ⟨by omega, by omega⟩) (fun c3 => ?_) (fun c3 => ?_)
        · refine s_iinc dX9_leftOf_71 rfl (by decide) rfl (L' := [_, _, _, _, _]) rfl ?_
          refine s_goto (tgt := 9) dX9_leftOf_74 (by decide) ?_
          exact ih (g + 1) _ _ (by omega) (by omega) (by rw [zfl_up g0, ← hw]; first | (rw [if_neg (by omega)]; done) | (rw [if_pos (by omega)]; omega)) hG fr
        · refine s_aload_n dX9_leftOf_37 rfl ?_
          refine s_iload dX9_leftOf_38 rfl ?_
          refine s_callV (d' := d - 1) (bc' := 0) (bs' := 0) (as := [_]) dX9_leftOf_40 vf_X9_322 (dd_ (by omega) (by decide)) ⟨Nat.zero_le _, Nat.zero_le _⟩ rfl rfl (Nat.le_of_ble_eq_true rfl) kl_7 rfl io_196 ?_
          refine c_X9_lapses (by omega) M (by omega) (by omega) (fun hhG1 ghG1 fhG1 => ?_)
          have hG1 := ghG1
          have M := sc_M M ghG1 (sc_16 fhG1)
          have fr := fun x y (hx : ¬ x = 196 + 16) => (fhG1 x y hx).trans (fr x y hx)
          have lb : inI (zlp z g) := by unfold zlp; exact b01_in _
          refine s_if_ne (tgt := 71) dX9_leftOf_43 (by decide) (by first | exact hG1.2 _ _ | exact hG.2 _ _ | exact b01_in _ | assumption | exact ⟨by omega, by omega⟩) (fun c4 => ?_) (fun c4 => ?_)
          · refine s_iinc dX9_leftOf_71 rfl (by decide) rfl (L' := [_, _, _, _, _]) rfl ?_
            refine s_goto (tgt := 9) dX9_leftOf_74 (by decide) ?_
            exact ih (g + 1) _ _ (by omega) (by omega) (by rw [zfl_up g0, ← hw]; first | (rw [if_neg (by omega)]; done) | (rw [if_pos (by omega)]; omega)) hG1 fr
          · refine s_iload_n dX9_leftOf_46 rfl ?_
            refine s_iload_n dX9_leftOf_47 rfl ?_
            refine s_aload_n dX9_leftOf_48 rfl ?_
            refine s_iload dX9_leftOf_49 rfl ?_
            refine s_iconst dX9_leftOf_51 ?_
            refine s_callV (d' := d - 1) (bc' := 0) (bs' := 0) (as := [_, _]) dX9_leftOf_52 vf_X9_317 (dd_ (by omega) (by decide)) ⟨Nat.zero_le _, Nat.zero_le _⟩ rfl rfl (Nat.le_of_ble_eq_true rfl) kl_7 rfl io_196 ?_
            refine c_X9_of M (by omega) (by omega) (by omega) (by omega) (j := 8) (by omega) ?_
            refine s_icmp_ge (tgt := 62) dX9_leftOf_55 (by decide) (by first | exact hG1.2 _ _ | exact hG.2 _ _ | exact b01_in _ | assumption | exact ⟨by omega, by omega⟩) (by first | exact hG1.2 _ _ | exact hG.2 _ _ | exact b01_in _ | assumption | exact ⟨by omega, by omega⟩) (fun c5 => ?_) (fun c5 => ?_)
            · refine s_aload_n dX9_leftOf_62 rfl ?_
              refine s_iload dX9_leftOf_63 rfl ?_
              refine s_iconst dX9_leftOf_65 ?_
              refine s_callV (d' := d - 1) (bc' := 0) (bs' := 0) (as := [_, _]) dX9_leftOf_66 vf_X9_317 (dd_ (by omega) (by decide)) ⟨Nat.zero_le _, Nat.zero_le _⟩ rfl rfl (Nat.le_of_ble_eq_true rfl) kl_7 rfl io_196 ?_
              refine c_X9_of M (by omega) (by omega) (by omega) (by omega) (j := 8) (by omega) ?_
              refine s_isub dX9_leftOf_69 ?_
              refine s_istore_n dX9_leftOf_70 (by decide) rfl (L' := [_, _, _, _, _]) rfl ?_
              refine s_iinc dX9_leftOf_71 rfl (by decide) rfl (L' := [_, _, _, _, _]) rfl ?_
              refine s_goto (tgt := 9) dX9_leftOf_74 (by decide) ?_
              exact ih (g + 1) _ _ (by omega) (by omega) (by rw [zfl_up g0, ← hw]; first | (rw [if_neg (by omega)]; done) | (rw [if_pos (by omega)]; omega)) hG1 fr
            · refine s_iload_n dX9_leftOf_58 rfl ?_
              refine s_goto (tgt := 69) dX9_leftOf_59 (by decide) ?_
              refine s_isub dX9_leftOf_69 ?_
              refine s_istore_n dX9_leftOf_70 (by decide) rfl (L' := [_, _, _, _, _]) rfl ?_
              refine s_iinc dX9_leftOf_71 rfl (by decide) rfl (L' := [_, _, _, _, _]) rfl ?_
              refine s_goto (tgt := 9) dX9_leftOf_74 (by decide) ?_
              exact ih (g + 1) _ _ (by omega) (by omega) (by rw [zfl_up g0, ← hw]; first | (rw [if_neg (by omega)]; done) | (rw [if_pos (by omega)]; omega)) hG1 fr
set_option maxRecDepth 100000 in
set_option maxHeartbeats 4000000 in
theorem c_X9_leftOf {t u : Int} (hd : 4 ≤ d) (M : MR_ h z) (t0 : 0 ≤ t) (t1 : t < z 0 0) (u0 : 0 ≤ u) (u1 : u ≤ z 0 2) (k : ∀ h1 : PH, G h1 → (∀ x y : Int, ¬ x = 196 + 16 → h1 x y = h x y) → Q.1 (some (0, zfl z u.toNat t)) nN h1) : Cl_ yX9_leftOf MX9_leftOf d bc bs [(2, 196), (0, t), (0, u)] nN h Q := by
  refine s_enter pn_X9 rfl (Nat.le_of_ble_eq_true rfl) (L := [(2, _), (0, _), (0, _), (9, 0), (9, 0)]) rfl ?_
  have hG := M.1
  have I := mr_i M
  have hT := I.2.1
  have hP := I.2.2.1
  have hN := I.2.2.2.1
  have nn := M.2.1
  refine s_aload_n dX9_leftOf_0 rfl ?_
  refine s_iload_n dX9_leftOf_1 rfl ?_
  refine s_callV (d' := d - 1) (bc' := 0) (bs' := 0) (as := [_]) dX9_leftOf_2 vf_X9_305 (dd_ (by omega) (by decide)) ⟨Nat.zero_le _, Nat.zero_le _⟩ rfl rfl (Nat.le_of_ble_eq_true rfl) kl_7 rfl io_196 ?_
  refine c_X9_bringsOf (by omega) M t0 (by omega) ?_
  refine s_istore_n dX9_leftOf_5 (by decide) rfl (L' := [_, _, _, _, _]) rfl ?_
  refine s_iconst dX9_leftOf_6 ?_
  refine s_istore dX9_leftOf_7 (by decide) rfl (L' := [_, _, _, _, _]) rfl ?_
  exact lp_X9_leftOf hd M t0 t1 u1 k u.toNat 0 _ h (by omega) (by omega) rfl hG (fun _ _ _ => rfl)
set_option maxRecDepth 100000 in
set_option maxHeartbeats 4000000 in
theorem c_X9_laysDueOf {g : Int} (hd : 5 ≤ d) (M : MR_ h z) (g0 : 0 ≤ g) (g1 : g < z 0 2) (hl : zlp z g = 0) (hz : ∀ c : Int, 0 ≤ c → c < 7 → h (196 + 18) (7 * g + c) = 0) (k : ∀ h1 : PH, G h1 → (∀ x y : Int, ¬ x = 196 + 16 → ¬ (x = 196 + 18 ∧ 7 * g ≤ y ∧ y < 7 * g + 7) → h1 x y = h x y) → (∀ c : Int, 0 ≤ c → c < 7 → h1 (196 + 18) (7 * g + c) = zdu z g c) → Q.1 none nN h1) : Cl_ yX9_laysDueOf MX9_laysDueOf d bc bs [(2, 196), (0, g)] nN h Q := by
  refine s_enter pn_X9 rfl (Nat.le_of_ble_eq_true rfl) (L := [(2, _), (0, _), (9, 0), (9, 0), (9, 0), (9, 0), (9, 0)]) rfl ?_
  have hG := M.1
  have I := mr_i M
  have hT := I.2.1
  have hP := I.2.2.1
  have hN := I.2.2.2.1
  have nn := M.2.1
  have gg := I.2.2.2.2.2 g g0 g1
  have e60 := mr_f M 60 (by omega) (by omega)
  rw [pm_h (by omega)] at e60
  have b60 := I.1.2.2.2.2.2.2
  refine s_bipush dX9_laysDueOf_0 (by decide) ?_
  refine s_iload_n dX9_laysDueOf_2 rfl ?_
  refine s_imul dX9_laysDueOf_3 ?_
  refine s_istore_n dX9_laysDueOf_4 (by decide) rfl (L' := [_, _, _, _, _, _, _]) rfl ?_
  refine s_aload_n dX9_laysDueOf_5 rfl ?_
  refine s_iload_n dX9_laysDueOf_6 rfl ?_
  refine s_iconst dX9_laysDueOf_7 ?_
  refine s_callV (d' := d - 1) (bc' := 0) (bs' := 0) (as := [_, _]) dX9_laysDueOf_8 vf_X9_317 (dd_ (by omega) (by decide)) ⟨Nat.zero_le _, Nat.zero_le _⟩ rfl rfl (Nat.le_of_ble_eq_true rfl) kl_7 rfl io_196 ?_
  refine c_X9_of M (by omega) (by omega) (by omega) (by omega) (j := 8) (by omega) ?_
  refine s_istore_n dX9_laysDueOf_11 (by decide) rfl (L' := [_, _, _, _, _, _, _]) rfl ?_
  refine s_aload_n dX9_laysDueOf_12 rfl ?_
  refine s_iload_n dX9_laysDueOf_13 rfl ?_
  refine s_iconst dX9_laysDueOf_14 ?_
  refine s_callV (d' := d - 1) (bc' := 0) (bs' := 0) (as := [_, _]) dX9_laysDueOf_15 vf_X9_317 (dd_ (by omega) (by decide)) ⟨Nat.zero_le _, Nat.zero_le _⟩ rfl rfl (Nat.le_of_ble_eq_true rfl) kl_7 rfl io_196 ?_
  refine c_X9_of M (by omega) (by omega) (by omega) (by omega) (j := 5) (by omega) ?_
  refine s_istore dX9_laysDueOf_18 (by decide) rfl (L' := [_, _, _, _, _, _, _]) rfl ?_
  refine s_iload dX9_laysDueOf_20 rfl ?_
  refine s_if_ne (tgt := 102) dX9_laysDueOf_22 (by decide) (by first | exact hG.2 _ _ | exact b01_in _ | assumption | exact ⟨by omega, by omega⟩) (fun c1 => ?_) (fun c1 => ?_)
  · refine s_iload dX9_laysDueOf_102 rfl ?_
    refine s_iconst dX9_laysDueOf_104 ?_
    refine s_icmp_ne (tgt := 125) dX9_laysDueOf_105 (by decide) (by first | exact hG.2 _ _ | exact b01_in _ | assumption | exact ⟨by omega, by omega⟩) (by first | exact hG.2 _ _ | exact b01_in _ | assumption | exact ⟨by omega, by omega⟩) (fun c2 => ?_) (fun c2 => ?_)
    · refine s_iload dX9_laysDueOf_125 rfl ?_
      refine s_iconst dX9_laysDueOf_127 ?_
      refine s_icmp_ne (tgt := 183) dX9_laysDueOf_128 (by decide) (by first | exact hG.2 _ _ | exact b01_in _ | assumption | exact ⟨by omega, by omega⟩) (by first | exact hG.2 _ _ | exact b01_in _ | assumption | exact ⟨by omega, by omega⟩) (fun c3 => ?_) (fun c3 => ?_)
      · exact s_return dX9_laysDueOf_183 rfl (k _ hG (fun _ _ _ _ => rfl) (fun c c0 c7 => (hz c c0 c7).trans (zdu_3 hl (by omega)).symm))
      · refine s_aload_n dX9_laysDueOf_131 rfl ?_
        refine s_aload_n dX9_laysDueOf_132 rfl ?_
        refine s_iload_n dX9_laysDueOf_133 rfl ?_
        refine s_iconst dX9_laysDueOf_134 ?_
        refine s_callV (d' := d - 1) (bc' := 0) (bs' := 0) (as := [_, _]) dX9_laysDueOf_135 vf_X9_317 (dd_ (by omega) (by decide)) ⟨Nat.zero_le _, Nat.zero_le _⟩ rfl rfl (Nat.le_of_ble_eq_true rfl) kl_7 rfl io_196 ?_
        refine c_X9_of M (by omega) (by omega) (by omega) (by omega) (j := 7) (by omega) ?_
        refine s_iload_n dX9_laysDueOf_138 rfl ?_
        refine s_callV (d' := d - 1) (bc' := 0) (bs' := 0) (as := [_, _]) dX9_laysDueOf_139 vf_X9_360 (dd_ (by omega) (by decide)) ⟨Nat.zero_le _, Nat.zero_le _⟩ rfl rfl (Nat.le_of_ble_eq_true rfl) kl_7 rfl io_196 ?_
        refine c_X9_leftOf (by omega) M (by omega) (by omega) (by omega) (by omega) (fun hhG1 ghG1 fhG1 => ?_)
        have hG1 := ghG1
        have M := sc_M M ghG1 (sc_16 fhG1)
        have wb := zfl_bd I (t := z 7 g) (by omega) (by omega) (k := g.toNat) (by omega)
        refine s_istore dX9_laysDueOf_142 (by decide) rfl (L' := [_, _, _, _, _, _, _]) rfl ?_
        refine s_aload_n dX9_laysDueOf_144 rfl ?_
        refine s_getr dX9_laysDueOf_145 fl_X9_67 kl_7 (by decide) rfl io_196 (z := 30) rfl (rf_7_30 hG1.1 io_196) (rk_7_30 io_196).1 ?_
        refine s_iload_n dX9_laysDueOf_148 rfl ?_
        refine s_iload dX9_laysDueOf_149 rfl ?_
        refine s_iload_n dX9_laysDueOf_151 rfl ?_
        refine s_icmp_ge (tgt := 160) dX9_laysDueOf_152 (by decide) (by first | exact hG1.2 _ _ | exact hG.2 _ _ | exact b01_in _ | assumption | exact ⟨by omega, by omega⟩) (by first | exact hG1.2 _ _ | exact hG.2 _ _ | exact b01_in _ | assumption | exact ⟨by omega, by omega⟩) (fun c4 => ?_) (fun c4 => ?_)
        · refine s_iload_n dX9_laysDueOf_160 rfl ?_
          refine s_iastoreG dX9_laysDueOf_161 (rk_7_30 io_196) (by omega) (by omega) hG1 (by first | exact hG1.2 _ _ | exact hG.2 _ _ | exact b01_in _ | assumption | exact ⟨by omega, by omega⟩) (fun hG2 => ?_)
          refine s_aload_n dX9_laysDueOf_162 rfl ?_
          refine s_getr dX9_laysDueOf_163 fl_X9_67 kl_7 (by decide) rfl io_196 (z := 30) rfl (rf_7_30 hG2.1 io_196) (rk_7_30 io_196).1 ?_
          refine s_iload_n dX9_laysDueOf_166 rfl ?_
          refine s_aload_n dX9_laysDueOf_167 rfl ?_
          have M9 := sc_M M hG2 (fun x y a b => hs_ne _ (by omega))
          refine s_iload_n dX9_laysDueOf_168 rfl ?_
          refine s_iconst dX9_laysDueOf_169 ?_
          refine s_callV (d' := d - 1) (bc' := 0) (bs' := 0) (as := [_, _]) dX9_laysDueOf_170 vf_X9_317 (dd_ (by omega) (by decide)) ⟨Nat.zero_le _, Nat.zero_le _⟩ rfl rfl (Nat.le_of_ble_eq_true rfl) kl_7 rfl io_196 ?_
          refine c_X9_of M9 (by omega) (by omega) (by omega) (by omega) (j := 9) (by omega) ?_
          refine s_iadd dX9_laysDueOf_173 ?_
          refine s_iload_n dX9_laysDueOf_174 rfl ?_
          refine s_aload_n dX9_laysDueOf_175 rfl ?_
          refine s_getr dX9_laysDueOf_176 fl_X9_67 kl_7 (by decide) rfl io_196 (z := 30) rfl (rf_7_30 hG2.1 io_196) (rk_7_30 io_196).1 ?_
          refine s_iload_n dX9_laysDueOf_179 rfl ?_
          refine s_iaload dX9_laysDueOf_180 (rk_7_30 io_196) (by omega) (by omega) ?_
          rw [hs_eq]
          refine s_isub dX9_laysDueOf_181 ?_
          refine s_iastoreG dX9_laysDueOf_182 (rk_7_30 io_196) (by omega) (by omega) hG2 (by first | exact hG2.2 _ _ | exact hG.2 _ _ | exact b01_in _ | assumption | exact ⟨by omega, by omega⟩) (fun hG3 => ?_)
          refine s_return dX9_laysDueOf_183 rfl (k _ hG3 (fun x y a b => by rw [hs_ne _ (by omega), hs_ne _ (by omega)]; exact fhG1 x y a) (fun c c0 c7 => ?_))
          rw [zdu_2 hl (by omega)]
          by_cases e0 : c = 0
          · rw [if_pos e0, e0, hs_ne _ (by omega), show 7 * g + 0 = 7 * g by omega, hs_eq]
            omega
          · rw [if_neg e0]
            by_cases e4 : c = z 9 g
            · rw [if_pos e4, e4, hs_eq]
              omega
            · rw [hs_ne _ (by omega), hs_ne _ (by omega), if_neg e4, fhG1 _ _ (by omega)]
              exact hz c c0 c7
        · refine s_iload dX9_laysDueOf_155 rfl ?_
          refine s_goto (tgt := 161) dX9_laysDueOf_157 (by decide) ?_
          refine s_iastoreG dX9_laysDueOf_161 (rk_7_30 io_196) (by omega) (by omega) hG1 (by first | exact hG1.2 _ _ | exact hG.2 _ _ | exact b01_in _ | assumption | exact ⟨by omega, by omega⟩) (fun hG4 => ?_)
          refine s_aload_n dX9_laysDueOf_162 rfl ?_
          refine s_getr dX9_laysDueOf_163 fl_X9_67 kl_7 (by decide) rfl io_196 (z := 30) rfl (rf_7_30 hG4.1 io_196) (rk_7_30 io_196).1 ?_
          refine s_iload_n dX9_laysDueOf_166 rfl ?_
          refine s_aload_n dX9_laysDueOf_167 rfl ?_
          have M9 := sc_M M hG4 (fun x y a b => hs_ne _ (by omega))
          refine s_iload_n dX9_laysDueOf_168 rfl ?_
          refine s_iconst dX9_laysDueOf_169 ?_
          refine s_callV (d' := d - 1) (bc' := 0) (bs' := 0) (as := [_, _]) dX9_laysDueOf_170 vf_X9_317 (dd_ (by omega) (by decide)) ⟨Nat.zero_le _, Nat.zero_le _⟩ rfl rfl (Nat.le_of_ble_eq_true rfl) kl_7 rfl io_196 ?_
          refine c_X9_of M9 (by omega) (by omega) (by omega) (by omega) (j := 9) (by omega) ?_
          refine s_iadd dX9_laysDueOf_173 ?_
          refine s_iload_n dX9_laysDueOf_174 rfl ?_
          refine s_aload_n dX9_laysDueOf_175 rfl ?_
          refine s_getr dX9_laysDueOf_176 fl_X9_67 kl_7 (by decide) rfl io_196 (z := 30) rfl (rf_7_30 hG4.1 io_196) (rk_7_30 io_196).1 ?_
          refine s_iload_n dX9_laysDueOf_179 rfl ?_
          refine s_iaload dX9_laysDueOf_180 (rk_7_30 io_196) (by omega) (by omega) ?_
          rw [hs_eq]
          refine s_isub dX9_laysDueOf_181 ?_
          refine s_iastoreG dX9_laysDueOf_182 (rk_7_30 io_196) (by omega) (by omega) hG4 (by first | exact hG4.2 _ _ | exact hG.2 _ _ | exact b01_in _ | assumption | exact ⟨by omega, by omega⟩) (fun hG5 => ?_)
          refine s_return dX9_laysDueOf_183 rfl (k _ hG5 (fun x y a b => by rw [hs_ne _ (by omega), hs_ne _ (by omega)]; exact fhG1 x y a) (fun c c0 c7 => ?_))
          rw [zdu_2 hl (by omega)]
          by_cases e0 : c = 0
          · rw [if_pos e0, e0, hs_ne _ (by omega), show 7 * g + 0 = 7 * g by omega, hs_eq]
            omega
          · rw [if_neg e0]
            by_cases e4 : c = z 9 g
            · rw [if_pos e4, e4, hs_eq]
              omega
            · rw [hs_ne _ (by omega), hs_ne _ (by omega), if_neg e4, fhG1 _ _ (by omega)]
              exact hz c c0 c7
    · refine s_aload_n dX9_laysDueOf_108 rfl ?_
      refine s_getr dX9_laysDueOf_109 fl_X9_67 kl_7 (by decide) rfl io_196 (z := 30) rfl (rf_7_30 hG.1 io_196) (rk_7_30 io_196).1 ?_
      refine s_iload_n dX9_laysDueOf_112 rfl ?_
      refine s_aload_n dX9_laysDueOf_113 rfl ?_
      refine s_iload_n dX9_laysDueOf_114 rfl ?_
      refine s_iconst dX9_laysDueOf_115 ?_
      refine s_callV (d' := d - 1) (bc' := 0) (bs' := 0) (as := [_, _]) dX9_laysDueOf_116 vf_X9_317 (dd_ (by omega) (by decide)) ⟨Nat.zero_le _, Nat.zero_le _⟩ rfl rfl (Nat.le_of_ble_eq_true rfl) kl_7 rfl io_196 ?_
      refine c_X9_of M (by omega) (by omega) (by omega) (by omega) (j := 9) (by omega) ?_
      refine s_iadd dX9_laysDueOf_119 ?_
      refine s_iload_n dX9_laysDueOf_120 rfl ?_
      refine s_iastoreG dX9_laysDueOf_121 (rk_7_30 io_196) (by omega) (by omega) hG (by first | exact hG.2 _ _ | exact b01_in _ | assumption | exact ⟨by omega, by omega⟩) (fun hG6 => ?_)
      refine s_goto (tgt := 183) dX9_laysDueOf_122 (by decide) ?_
      refine s_return dX9_laysDueOf_183 rfl (k _ hG6 (fun x y a b => by rw [hs_ne _ (by omega)]) (fun c c0 c7 => ?_))
      rw [zdu_1 hl (by omega)]
      by_cases e0 : c = z 9 g
      · rw [if_pos e0, e0, hs_eq]
      · rw [if_neg e0, hs_ne _ (by omega)]
        exact hz c c0 c7
  · refine s_aload_n dX9_laysDueOf_25 rfl ?_
    refine s_iload_n dX9_laysDueOf_26 rfl ?_
    refine s_iconst dX9_laysDueOf_27 ?_
    refine s_callV (d' := d - 1) (bc' := 0) (bs' := 0) (as := [_, _]) dX9_laysDueOf_28 vf_X9_317 (dd_ (by omega) (by decide)) ⟨Nat.zero_le _, Nat.zero_le _⟩ rfl rfl (Nat.le_of_ble_eq_true rfl) kl_7 rfl io_196 ?_
    refine c_X9_of M (by omega) (by omega) (by omega) (by omega) (j := 7) (by omega) ?_
    have eb := zbr_bd I.1 (t := z 7 g) (by omega) (by omega)
    have ez := I.1.1 (z 7 g) (by omega) (by omega)
    refine s_istore dX9_laysDueOf_31 (by decide) rfl (L' := [_, _, _, _, _, _, _]) rfl ?_
    refine s_aload_n dX9_laysDueOf_33 rfl ?_
    refine s_getr dX9_laysDueOf_34 fl_X9_67 kl_7 (by decide) rfl io_196 (z := 30) rfl (rf_7_30 hG.1 io_196) (rk_7_30 io_196).1 ?_
    refine s_iload_n dX9_laysDueOf_37 rfl ?_
    refine s_aload_n dX9_laysDueOf_38 rfl ?_
    refine s_iload dX9_laysDueOf_39 rfl ?_
    refine s_callV (d' := d - 1) (bc' := 0) (bs' := 0) (as := [_]) dX9_laysDueOf_41 vf_X9_305 (dd_ (by omega) (by decide)) ⟨Nat.zero_le _, Nat.zero_le _⟩ rfl rfl (Nat.le_of_ble_eq_true rfl) kl_7 rfl io_196 ?_
    refine c_X9_bringsOf (by omega) M (by omega) (by omega) ?_
    refine s_iastoreG dX9_laysDueOf_44 (rk_7_30 io_196) (by omega) (by omega) hG (by first | exact hG.2 _ _ | exact b01_in _ | assumption | exact ⟨by omega, by omega⟩) (fun hG7 => ?_)
    refine s_aload_n dX9_laysDueOf_45 rfl ?_
    refine s_iload dX9_laysDueOf_46 rfl ?_
    refine s_iconst dX9_laysDueOf_48 ?_
    refine s_callV (d' := d - 1) (bc' := 0) (bs' := 0) (as := [_, _]) dX9_laysDueOf_49 vf_X9_300 (dd_ (by omega) (by decide)) ⟨Nat.zero_le _, Nat.zero_le _⟩ rfl rfl (Nat.le_of_ble_eq_true rfl) kl_7 rfl io_196 ?_
    have M9 := sc_M M hG7 (fun x y a b => hs_ne _ (by omega))
    refine c_X9_ofThing M9 (by omega) (by omega) (by omega) (by omega) (j := z 7 g) (by omega) ?_
    refine s_aload_n dX9_laysDueOf_52 rfl ?_
    refine s_iload dX9_laysDueOf_53 rfl ?_
    refine s_callV (d' := d - 1) (bc' := 0) (bs' := 0) (as := [_]) dX9_laysDueOf_55 vf_X9_305 (dd_ (by omega) (by decide)) ⟨Nat.zero_le _, Nat.zero_le _⟩ rfl rfl (Nat.le_of_ble_eq_true rfl) kl_7 rfl io_196 ?_
    refine c_X9_bringsOf (by omega) M9 (by omega) (by omega) ?_
    refine s_isub dX9_laysDueOf_58 ?_
    refine s_istore dX9_laysDueOf_59 (by decide) rfl (L' := [_, _, _, _, _, _, _]) rfl ?_
    refine s_aload_n dX9_laysDueOf_61 rfl ?_
    refine s_getr dX9_laysDueOf_62 fl_X9_67 kl_7 (by decide) rfl io_196 (z := 30) rfl (rf_7_30 hG7.1 io_196) (rk_7_30 io_196).1 ?_
    refine s_iload_n dX9_laysDueOf_65 rfl ?_
    refine s_iconst dX9_laysDueOf_66 ?_
    refine s_iadd dX9_laysDueOf_67 ?_
    refine s_aload_n dX9_laysDueOf_68 rfl ?_
    refine s_getr dX9_laysDueOf_69 fl_X9_7 kl_7 (by decide) rfl io_196 (z := 1) rfl (rf_7_1 hG7.1 io_196) (rk_7_1 io_196).1 ?_
    refine s_bipush dX9_laysDueOf_72 (by decide) ?_
    refine s_iaload dX9_laysDueOf_74 (rk_7_1 io_196) (by omega) (by omega) ?_
    rw [hs_ne _ (by omega), e60]
    refine s_iconst dX9_laysDueOf_75 ?_
    refine s_icmp_ne (tgt := 97) dX9_laysDueOf_76 (by decide) (by first | exact hG7.2 _ _ | exact hG.2 _ _ | exact b01_in _ | assumption | exact ⟨by omega, by omega⟩) (by first | exact hG7.2 _ _ | exact hG.2 _ _ | exact b01_in _ | assumption | exact ⟨by omega, by omega⟩) (fun c5 => ?_) (fun c5 => ?_)
    · refine s_iconst dX9_laysDueOf_97 ?_
      refine s_iastoreG dX9_laysDueOf_98 (rk_7_30 io_196) (by omega) (by omega) hG7 (by first | exact hG7.2 _ _ | exact hG.2 _ _ | exact b01_in _ | assumption | exact ⟨by omega, by omega⟩) (fun hG8 => ?_)
      refine s_goto (tgt := 183) dX9_laysDueOf_99 (by decide) ?_
      refine s_return dX9_laysDueOf_183 rfl (k _ hG8 (fun x y a b => by rw [hs_ne _ (by omega), hs_ne _ (by omega)]) (fun c c0 c7 => ?_))
      rw [zdu_0 hl (by omega)]
      by_cases e0 : c = 0
      · rw [if_pos e0, e0, hs_ne _ (by omega), show 7 * g + 0 = 7 * g by omega, hs_eq]
      · rw [if_neg e0]
        by_cases e4 : c = 4
        · rw [e4, hs_eq]
          rw [if_neg (by omega)]
        · rw [hs_ne _ (by omega), hs_ne _ (by omega), if_neg (by omega)]
          exact hz c c0 c7
    · refine s_aload_n dX9_laysDueOf_79 rfl ?_
      refine s_iload_n dX9_laysDueOf_80 rfl ?_
      refine s_callV (d' := d - 1) (bc' := 0) (bs' := 0) (as := [_]) dX9_laysDueOf_81 vf_X9_325 (dd_ (by omega) (by decide)) ⟨Nat.zero_le _, Nat.zero_le _⟩ rfl rfl (Nat.le_of_ble_eq_true rfl) kl_7 rfl io_196 ?_
      refine c_X9_adeemed (by omega) M9 (by omega) (by omega) ?_
      have za : zad z g = if ¬ z 5 g = 0 ∨ z 1 (8 + z 7 g) = 0 then 0 else if zbr z (z 7 g) = 0 then 2 else 1 := rfl
      have zb : inI (zad z g) := by rw [za]; split; exact inI0; split <;> exact ⟨by decide, by decide⟩
      refine s_if_le (tgt := 97) dX9_laysDueOf_84 (by decide) (by first | exact hG7.2 _ _ | exact hG.2 _ _ | exact b01_in _ | assumption | exact ⟨by omega, by omega⟩) (fun c6 => ?_) (fun c6 => ?_)
      · have zc : zad z g ≤ 0 := c6--go
        refine s_iconst dX9_laysDueOf_97 ?_
        refine s_iastoreG dX9_laysDueOf_98 (rk_7_30 io_196) (by omega) (by omega) hG7 (by first | exact hG7.2 _ _ | exact hG.2 _ _ | exact b01_in _ | assumption | exact ⟨by omega, by omega⟩) (fun hG9 => ?_)
        refine s_goto (tgt := 183) dX9_laysDueOf_99 (by decide) ?_
        refine s_return dX9_laysDueOf_183 rfl (k _ hG9 (fun x y a b => by rw [hs_ne _ (by omega), hs_ne _ (by omega)]) (fun c c0 c7 => ?_))
        rw [zdu_0 hl (by omega)]
        by_cases e0 : c = 0
        · rw [if_pos e0, e0, hs_ne _ (by omega), show 7 * g + 0 = 7 * g by omega, hs_eq]
        · rw [if_neg e0]
          by_cases e4 : c = 4
          · rw [e4, hs_eq]
            rw [if_pos (by omega)]
            have hh : z 1 (8 + z 7 g) = 0 := Classical.byContradiction fun w => by rw [za, if_neg (by omega)] at zc; split at zc <;> omega
            have hb9 : zbr z (z 7 g) = z 1 (z 7 g) := by unfold zbr; exact if_pos hh
            omega
          · rw [hs_ne _ (by omega), hs_ne _ (by omega), if_neg (by omega)]
            exact hz c c0 c7
      · have zc : 0 < zad z g := by omega--go
        refine s_iload dX9_laysDueOf_87 rfl ?_
        refine s_if_le (tgt := 97) dX9_laysDueOf_89 (by decide) (by first | exact hG7.2 _ _ | exact hG.2 _ _ | exact b01_in _ | assumption | exact ⟨by omega, by omega⟩) (fun c7 => ?_) (fun c7 => ?_)
        · refine s_iconst dX9_laysDueOf_97 ?_
          refine s_iastoreG dX9_laysDueOf_98 (rk_7_30 io_196) (by omega) (by omega) hG7 (by first | exact hG7.2 _ _ | exact hG.2 _ _ | exact b01_in _ | assumption | exact ⟨by omega, by omega⟩) (fun hG10 => ?_)
          refine s_goto (tgt := 183) dX9_laysDueOf_99 (by decide) ?_
          refine s_return dX9_laysDueOf_183 rfl (k _ hG10 (fun x y a b => by rw [hs_ne _ (by omega), hs_ne _ (by omega)]) (fun c c0 c7 => ?_))
          rw [zdu_0 hl (by omega)]
          by_cases e0 : c = 0
          · rw [if_pos e0, e0, hs_ne _ (by omega), show 7 * g + 0 = 7 * g by omega, hs_eq]
          · rw [if_neg e0]
            by_cases e4 : c = 4
            · rw [e4, hs_eq]
              rw [if_pos (by omega)]
              omega
            · rw [hs_ne _ (by omega), hs_ne _ (by omega), if_neg (by omega)]
              exact hz c c0 c7
        · refine s_iload dX9_laysDueOf_92 rfl ?_
          refine s_goto (tgt := 98) dX9_laysDueOf_94 (by decide) ?_
          refine s_iastoreG dX9_laysDueOf_98 (rk_7_30 io_196) (by omega) (by omega) hG7 (by first | exact hG7.2 _ _ | exact hG.2 _ _ | exact b01_in _ | assumption | exact ⟨by omega, by omega⟩) (fun hG11 => ?_)
          refine s_goto (tgt := 183) dX9_laysDueOf_99 (by decide) ?_
          refine s_return dX9_laysDueOf_183 rfl (k _ hG11 (fun x y a b => by rw [hs_ne _ (by omega), hs_ne _ (by omega)]) (fun c c0 c7 => ?_))
          rw [zdu_0 hl (by omega)]
          by_cases e0 : c = 0
          · rw [if_pos e0, e0, hs_ne _ (by omega), show 7 * g + 0 = 7 * g by omega, hs_eq]
          · rw [if_neg e0]
            by_cases e4 : c = 4
            · rw [e4, hs_eq]
              rw [if_pos (by omega)]
              omega
            · rw [hs_ne _ (by omega), hs_ne _ (by omega), if_neg (by omega)]
              exact hz c c0 c7
def FD_ (h0 h : PH) : Prop := ∀ x y : Int, ¬ x = 196 + 16 → ¬ x = 196 + 18 → ¬ x = 196 + 19 → ¬ x = 196 + 20 → h x y = h0 x y
theorem fd_sc {h0 h : PH} (f : FD_ h0 h) : SC_ h0 h := fun x y a _ => f x y (by omega) (by omega) (by omega) (by omega)
set_option maxRecDepth 100000 in
set_option maxHeartbeats 4000000 in
theorem lp_X9_dueA  (K : ∀ h : PH, G h → FD_ h0 h → (∀ j : Int, 0 ≤ j → j < 84 → h (196 + 18) j = 0 ∧ h (196 + 19) j = 0) → ∀ k : Int, S_ MX9_laysDue d bc bs Q 28 [(2, 196), (0, k)] [] nN h) : ∀ (m : Nat) (k : Int) (h : PH), (0 ≤ k) → (k + m = 84) → (G h) → (FD_ h0 h) → (∀ j : Int, 0 ≤ j → j < k → h (196 + 18) j = 0 ∧ h (196 + 19) j = 0) → S_ MX9_laysDue d bc bs Q 2 [(2, 196), (0, k)] [] nN h := by
  intro m
  induction m with
  | zero =>
    intro k h k0 km gG fr H
    have hG := gG
    refine s_iload_n dX9_laysDue_2 rfl ?_
    refine s_bipush dX9_laysDue_3 (by decide) ?_
    refine s_icmp_ge (tgt := 28) dX9_laysDue_5 (by decide) (by first | exact hG.2 _ _ | exact b01_in _ | assumption | exact ⟨by omega, by omega⟩) (by first | exact hG.2 _ _ | exact b01_in _ | assumption | exact ⟨by omega, by omega⟩) (fun c1 => ?_) (fun c1 => ?_)
    · exact K h gG fr (fun j j0 j1 => H j j0 (by omega)) k
    · exact absurd c1 (by omega)
  | succ m ih =>
    intro k h k0 km gG fr H
    have hG := gG
    refine s_iload_n dX9_laysDue_2 rfl ?_
    refine s_bipush dX9_laysDue_3 (by decide) ?_
    refine s_icmp_ge (tgt := 28) dX9_laysDue_5 (by decide) (by first | exact hG.2 _ _ | exact b01_in _ | assumption | exact ⟨by omega, by omega⟩) (by first | exact hG.2 _ _ | exact b01_in _ | assumption | exact ⟨by omega, by omega⟩) (fun c1 => ?_) (fun c1 => ?_)
    · exact absurd c1 (by omega)
    · refine s_aload_n dX9_laysDue_8 rfl ?_
      refine s_getr dX9_laysDue_9 fl_X9_67 kl_7 (by decide) rfl io_196 (z := 30) rfl (rf_7_30 hG.1 io_196) (rk_7_30 io_196).1 ?_
      refine s_iload_n dX9_laysDue_12 rfl ?_
      refine s_iconst dX9_laysDue_13 ?_
      refine s_iastoreG dX9_laysDue_14 (rk_7_30 io_196) (by omega) (by omega) hG (by first | exact hG.2 _ _ | exact b01_in _ | assumption | exact ⟨by omega, by omega⟩) (fun hG1 => ?_)
      refine s_aload_n dX9_laysDue_15 rfl ?_
      refine s_getr dX9_laysDue_16 fl_X9_70 kl_7 (by decide) rfl io_196 (z := 31) rfl (rf_7_31 hG1.1 io_196) (rk_7_31 io_196).1 ?_
      refine s_iload_n dX9_laysDue_19 rfl ?_
      refine s_iconst dX9_laysDue_20 ?_
      refine s_iastoreG dX9_laysDue_21 (rk_7_31 io_196) (by omega) (by omega) hG1 (by first | exact hG1.2 _ _ | exact hG.2 _ _ | exact b01_in _ | assumption | exact ⟨by omega, by omega⟩) (fun hG2 => ?_)
      refine s_iinc dX9_laysDue_22 rfl (by decide) rfl (L' := [_, _]) rfl ?_
      refine s_goto (tgt := 2) dX9_laysDue_25 (by decide) ?_
      refine ih (k + 1) _ (by omega) (by omega) hG2 (fun x y a b c e => by rw [hs_ne _ (by omega), hs_ne _ (by omega)]; exact fr x y a b c e) (fun j j0 j1 => ?_)
      by_cases c : j = k
      · rw [c, hs_eq, hs_ne _ (by omega), hs_eq]
        exact ⟨rfl, rfl⟩
      · rw [hs_ne _ (by omega), hs_ne _ (by omega), hs_ne _ (by omega), hs_ne _ (by omega)]
        exact H j j0 (by omega)
set_option maxRecDepth 100000 in
set_option maxHeartbeats 4000000 in
theorem lp_X9_dueB  (hd : 6 ≤ d) (M0 : MR_ h0 z) (K : ∀ h : PH, G h → FD_ h0 h → (∀ i c : Int, 0 ≤ i → i < z 0 2 → 0 ≤ c → c < 7 → h (196 + 18) (7 * i + c) = zdu z i c) → (∀ j : Int, 0 ≤ j → j < 84 → h (196 + 19) j = 0) → ∀ k : Int, S_ MX9_laysDue d bc bs Q 57 [(2, 196), (0, k)] [] nN h) : ∀ (m : Nat) (g : Int) (h : PH), (0 ≤ g) → (g + m = z 0 2) → (G h) → (FD_ h0 h) → (∀ i c : Int, 0 ≤ i → i < 12 → 0 ≤ c → c < 7 → h (196 + 18) (7 * i + c) = if i < g then zdu z i c else 0) → (∀ j : Int, 0 ≤ j → j < 84 → h (196 + 19) j = 0) → S_ MX9_laysDue d bc bs Q 30 [(2, 196), (0, g)] [] nN h := by
  intro m
  induction m with
  | zero =>
    intro g h g0 gm gG fr H Z
    have hG := gG
    have M := sc_M M0 gG (fd_sc fr)
    have I := mr_i M
    have hT := I.2.1
    have hP := I.2.2.1
    have hN := I.2.2.2.1
    have nn := M.2.1
    have hd9 := hd
    refine s_iload_n dX9_laysDue_30 rfl ?_
    refine s_aload_n dX9_laysDue_31 rfl ?_
    refine s_geti dX9_laysDue_32 fl_X9_275 kl_7 (by decide) rfl io_196 (z := 7) rfl ?_
    refine s_icmp_ge (tgt := 57) dX9_laysDue_35 (by decide) (by first | exact hG.2 _ _ | exact b01_in _ | assumption | exact ⟨by omega, by omega⟩) (by first | exact hG.2 _ _ | exact b01_in _ | assumption | exact ⟨by omega, by omega⟩) (fun c1 => ?_) (fun c1 => ?_)
    · exact K h gG fr (fun i c i0 i1 c0 c7 => by rw [H i c i0 (by omega) c0 c7, if_pos (by omega)]) Z g
    · exact absurd c1 (by omega)
  | succ m ih =>
    intro g h g0 gm gG fr H Z
    have hG := gG
    have M := sc_M M0 gG (fd_sc fr)
    have I := mr_i M
    have hT := I.2.1
    have hP := I.2.2.1
    have hN := I.2.2.2.1
    have nn := M.2.1
    have hd9 := hd
    refine s_iload_n dX9_laysDue_30 rfl ?_
    refine s_aload_n dX9_laysDue_31 rfl ?_
    refine s_geti dX9_laysDue_32 fl_X9_275 kl_7 (by decide) rfl io_196 (z := 7) rfl ?_
    refine s_icmp_ge (tgt := 57) dX9_laysDue_35 (by decide) (by first | exact hG.2 _ _ | exact b01_in _ | assumption | exact ⟨by omega, by omega⟩) (by first | exact hG.2 _ _ | exact b01_in _ | assumption | exact ⟨by omega, by omega⟩) (fun c1 => ?_) (fun c1 => ?_)
    · exact absurd c1 (by omega)
    · refine s_aload_n dX9_laysDue_38 rfl ?_
      refine s_iload_n dX9_laysDue_39 rfl ?_
      refine s_callV (d' := d - 1) (bc' := 0) (bs' := 0) (as := [_]) dX9_laysDue_40 vf_X9_322 (dd_ (by omega) (by decide)) ⟨Nat.zero_le _, Nat.zero_le _⟩ rfl rfl (Nat.le_of_ble_eq_true rfl) kl_7 rfl io_196 ?_
      refine c_X9_lapses (by omega) M (by omega) (by omega) (fun hhG1 ghG1 fhG1 => ?_)
      have hG1 := ghG1
      have M := sc_M M ghG1 (sc_16 fhG1)
      have fL := fhG1
      have fr : FD_ h0 hhG1 := fun x y a b c e => (fhG1 x y a).trans (fr x y a b c e)
      have lb : inI (zlp z g) := by unfold zlp; exact b01_in _
      refine s_if_ne (tgt := 51) dX9_laysDue_43 (by decide) (by first | exact hG1.2 _ _ | exact hG.2 _ _ | exact b01_in _ | assumption | exact ⟨by omega, by omega⟩) (fun c2 => ?_) (fun c2 => ?_)
      · refine s_iinc dX9_laysDue_51 rfl (by decide) rfl (L' := [_, _]) rfl ?_
        refine s_goto (tgt := 30) dX9_laysDue_54 (by decide) ?_
        refine ih (g + 1) _ (by omega) (by omega) hG1 fr (fun i c i0 i1 c0 c7 => ?_) (fun j j0 j1 => by rw [fhG1 _ _ (by omega)]; exact Z j j0 j1)
        rw [fhG1 _ _ (by omega), H i c i0 i1 c0 c7]
        by_cases e : i = g
        · rw [e, if_neg (by omega), if_pos (by omega), zdu_l c2]
        · by_cases e2 : i < g
          · rw [if_pos e2, if_pos (by omega)]
          · rw [if_neg e2, if_neg (by omega)]
      · refine s_aload_n dX9_laysDue_46 rfl ?_
        refine s_iload_n dX9_laysDue_47 rfl ?_
        refine s_callV (d' := d - 1) (bc' := 0) (bs' := 0) (as := [_]) dX9_laysDue_48 vf_X9_353 (dd_ (by omega) (by decide)) ⟨Nat.zero_le _, Nat.zero_le _⟩ rfl rfl (Nat.le_of_ble_eq_true rfl) kl_7 rfl io_196 ?_
        refine c_X9_laysDueOf (by omega) M (by omega) (by omega) (by omega) (fun c c0 c7 => by rw [fL _ _ (by omega), H g c g0 (by omega) c0 c7, if_neg (by omega)]) (fun hhG2 ghG2 ffhG2 ddhG2 => ?_)
        have hG2 := ghG2
        have fr : FD_ h0 hhG2 := fun x y a b c e => (ffhG2 x y a (by omega)).trans (fr x y a b c e)
        refine s_iinc dX9_laysDue_51 rfl (by decide) rfl (L' := [_, _]) rfl ?_
        refine s_goto (tgt := 30) dX9_laysDue_54 (by decide) ?_
        refine ih (g + 1) _ (by omega) (by omega) hG2 fr (fun i c i0 i1 c0 c7 => ?_) (fun j j0 j1 => by rw [ffhG2 _ _ (by omega) (by omega), fL _ _ (by omega)]; exact Z j j0 j1)
        by_cases e : i = g
        · rw [e, if_pos (by omega)]
          exact ddhG2 c c0 c7
        · rw [ffhG2 _ _ (by omega) (by omega), fL _ _ (by omega), H i c i0 i1 c0 c7]
          by_cases e2 : i < g
          · rw [if_pos e2, if_pos (by omega)]
          · rw [if_neg e2, if_neg (by omega)]
set_option maxRecDepth 100000 in
set_option maxHeartbeats 4000000 in
theorem lp_X9_dueC  (hd : 2 ≤ d) (M0 : MR_ h0 z) (K : ∀ h : PH, G h → FD_ h0 h → (∀ i c : Int, 0 ≤ i → i < z 0 2 → 0 ≤ c → c < 7 → h (196 + 18) (7 * i + c) = zdu z i c) → (∀ j : Int, 0 ≤ j → j < 84 → h (196 + 19) j = 0) → (∀ j : Int, 0 ≤ j → j < 7 → h (196 + 20) j = cs_ (zdu z) (z 0 2) j) → Q.1 none nN h) : ∀ (m : Nat) (c : Int) (h : PH), (0 ≤ c) → (c + m = 7) → (G h) → (FD_ h0 h) → (∀ i c : Int, 0 ≤ i → i < z 0 2 → 0 ≤ c → c < 7 → h (196 + 18) (7 * i + c) = zdu z i c) → (∀ j : Int, 0 ≤ j → j < 84 → h (196 + 19) j = 0) → (∀ j : Int, 0 ≤ j → j < c → h (196 + 20) j = cs_ (zdu z) (z 0 2) j) → S_ MX9_laysDue d bc bs Q 59 [(2, 196), (0, c)] [] nN h := by
  intro m
  induction m with
  | zero =>
    intro c h c0 cm gG fr H Z S
    have hG := gG
    have M := sc_M M0 gG (fd_sc fr)
    have I := mr_i M
    have hT := I.2.1
    have hP := I.2.2.1
    have hN := I.2.2.2.1
    have nn := M.2.1
    refine s_iload_n dX9_laysDue_59 rfl ?_
    refine s_bipush dX9_laysDue_60 (by decide) ?_
    refine s_icmp_ge (tgt := 86) dX9_laysDue_62 (by decide) (by first | exact hG.2 _ _ | exact b01_in _ | assumption | exact ⟨by omega, by omega⟩) (by first | exact hG.2 _ _ | exact b01_in _ | assumption | exact ⟨by omega, by omega⟩) (fun c1 => ?_) (fun c1 => ?_)
    · exact s_return dX9_laysDue_86 rfl (K h gG fr H Z (fun j j0 j1 => S j j0 (by omega)))
    · exact absurd c1 (by omega)
  | succ m ih =>
    intro c h c0 cm gG fr H Z S
    have hG := gG
    have M := sc_M M0 gG (fd_sc fr)
    have I := mr_i M
    have hT := I.2.1
    have hP := I.2.2.1
    have hN := I.2.2.2.1
    have nn := M.2.1
    refine s_iload_n dX9_laysDue_59 rfl ?_
    refine s_bipush dX9_laysDue_60 (by decide) ?_
    refine s_icmp_ge (tgt := 86) dX9_laysDue_62 (by decide) (by first | exact hG.2 _ _ | exact b01_in _ | assumption | exact ⟨by omega, by omega⟩) (by first | exact hG.2 _ _ | exact b01_in _ | assumption | exact ⟨by omega, by omega⟩) (fun c1 => ?_) (fun c1 => ?_)
    · exact absurd c1 (by omega)
    · refine s_aload_n dX9_laysDue_65 rfl ?_
      refine s_getr dX9_laysDue_66 fl_X9_73 kl_7 (by decide) rfl io_196 (z := 32) rfl (rf_7_32 hG.1 io_196) (rk_7_32 io_196).1 ?_
      refine s_iload_n dX9_laysDue_69 rfl ?_
      refine s_aload_n dX9_laysDue_70 rfl ?_
      refine s_aload_n dX9_laysDue_71 rfl ?_
      refine s_getr dX9_laysDue_72 fl_X9_67 kl_7 (by decide) rfl io_196 (z := 30) rfl (rf_7_30 hG.1 io_196) (rk_7_30 io_196).1 ?_
      refine s_iload_n dX9_laysDue_75 rfl ?_
      refine s_callV (d' := d - 1) (bc' := 0) (bs' := 0) (as := [_, _]) dX9_laysDue_76 vf_X9_356 (dd_ (by omega) (by decide)) ⟨Nat.zero_le _, Nat.zero_le _⟩ rfl rfl (Nat.le_of_ble_eq_true rfl) kl_7 rfl io_196 ?_
      refine c_X9_sumOf (rk_7_30 io_196) M c0 (by omega) ?_
      have ec : sumI (fun g => h (196 + 18) (7 * g + c)) 0 (z 0 2).toNat = cs_ (zdu z) (z 0 2) c := sumI_congr _ _ (fun i i0 i1 => H i c i0 (by omega) c0 (by omega))
      have s0 := sumI_nonneg (f := fun g => zdu z g c) (z 0 2).toNat 0 (fun i i0 i1 => (zdu_bd I i0 (by omega)).1)
      have s1 := sumI_le (f := fun g => zdu z g c) (b := 9999) (z 0 2).toNat 0 (fun i i0 i1 => (zdu_bd I i0 (by omega)).2)
      have es : cs_ (zdu z) (z 0 2) c = sumI (fun g => zdu z g c) 0 (z 0 2).toNat := rfl
      refine s_iastoreG dX9_laysDue_79 (rk_7_32 io_196) (by omega) (by omega) hG (by first | exact hG.2 _ _ | exact b01_in _ | assumption | exact ⟨by omega, by omega⟩) (fun hG1 => ?_)
      refine s_iinc dX9_laysDue_80 rfl (by decide) rfl (L' := [_, _]) rfl ?_
      refine s_goto (tgt := 59) dX9_laysDue_83 (by decide) ?_
      refine ih (c + 1) _ (by omega) (by omega) hG1 (fun x y p q r e => by rw [hs_ne _ (by omega)]; exact fr x y p q r e) (fun i k i0 i1 k0 k7 => by rw [hs_ne _ (by omega)]; exact H i k i0 i1 k0 k7) (fun j j0 j1 => by rw [hs_ne _ (by omega)]; exact Z j j0 j1) (fun j j0 j1 => ?_)
      by_cases e : j = c
      · rw [e, hs_eq, ec]
      · rw [hs_ne _ (by omega)]
        exact S j j0 (by omega)
set_option maxRecDepth 100000 in
set_option maxHeartbeats 4000000 in
theorem c_X9_laysDue  (hd : 6 ≤ d) (M : MR_ h z) (k : ∀ h1 : PH, G h1 → FD_ h h1 → (∀ i c : Int, 0 ≤ i → i < z 0 2 → 0 ≤ c → c < 7 → h1 (196 + 18) (7 * i + c) = zdu z i c) → (∀ j : Int, 0 ≤ j → j < 84 → h1 (196 + 19) j = 0) → (∀ j : Int, 0 ≤ j → j < 7 → h1 (196 + 20) j = cs_ (zdu z) (z 0 2) j) → Q.1 none nN h1) : Cl_ yX9_laysDue MX9_laysDue d bc bs [(2, 196)] nN h Q := by
  refine s_enter pn_X9 rfl (Nat.le_of_ble_eq_true rfl) (L := [(2, _), (9, 0)]) rfl ?_
  have hG := M.1
  have I := mr_i M
  have hT := I.2.1
  have hP := I.2.2.1
  have hN := I.2.2.2.1
  have nn := M.2.1
  refine s_iconst dX9_laysDue_0 ?_
  refine s_istore_n dX9_laysDue_1 (by decide) rfl (L' := [_, _]) rfl ?_
  refine lp_X9_dueA (h0 := h) (fun hA gA fA zA kA => ?_) 84 0 h (by omega) (by omega) hG (fun _ _ _ _ _ _ => rfl) (fun j j0 j1 => by omega)
  refine s_iconst dX9_laysDue_28 ?_
  refine s_istore_n dX9_laysDue_29 (by decide) rfl (L' := [_, _]) rfl ?_
  refine lp_X9_dueB hd M (fun hB gB fB dB zB kB => ?_) (z 0 2).toNat 0 hA (by omega) (by omega) gA fA (fun i c i0 i1 c0 c7 => by rw [if_neg (by omega)]; exact (zA _ (by omega) (by omega)).1) (fun j j0 j1 => (zA j j0 j1).2)
  refine s_iconst dX9_laysDue_57 ?_
  refine s_istore_n dX9_laysDue_58 (by decide) rfl (L' := [_, _]) rfl ?_
  exact lp_X9_dueC (by omega) M k 7 0 hB (by omega) (by omega) gB fB dB zB (fun j j0 j1 => by omega)
end X9E
