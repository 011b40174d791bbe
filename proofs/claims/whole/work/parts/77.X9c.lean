/-! the reference: what only tells; acts -/
theorem sc_16 {h h1 : PH} (f : ∀ x y : Int, ¬ x = 196 + 16 → h1 x y = h x y) : SC_ h h1 := fun x y a _ => f x y (by omega)
theorem pm_inj {k j : Int} (k0 : 0 ≤ k) (k1 : k < 61) (j0 : 0 ≤ j) (j1 : j < 61) (h : pm_ k = pm_ j) : k = j := by
  unfold pm_ at h
  split at h <;> split at h <;> omega
/-- the row of facts holds F -/
def RW_ (h : PH) (F : Int → Int) : Prop := ∀ k : Int, 0 ≤ k → k < 61 → h (196 + 1) k = F (pm_ k)
theorem rw_put {h : PH} {F : Int → Int} {k j v : Int} (R : RW_ h F) (k0 : 0 ≤ k) (k1 : k < 61) (e : pm_ k = j) : RW_ (hs_ h (196 + 1) k v) (fu_ F j v) := fun i i0 i1 => by
  by_cases c : i = k
  · rw [c, hs_eq, e, fu_eq]
  · rw [hs_ne _ (fun q => c q.2), fu_ne (fun q => c (pm_inj i0 i1 k0 k1 (q.trans e.symm)))]
    exact R i i0 i1
theorem zb_put {z : PH} {F : Int → Int} (B : ZB z) : ZB (zput z F) := by
  have e : ∀ x : Int, ¬ x = 1 → zput z F x = z x := fun x h => zput_ne h
  obtain ⟨d1, d2, d3, d4, d5, d6, d7, d8, d9⟩ := B
  refine ⟨by rw [e 50 (by omega)]; exact d1, by rw [e 51 (by omega)]; exact d2, by rw [e 52 (by omega)]; exact d3, fun t a b => ?_, fun p a b => ?_, by rw [e 53 (by omega)]; exact d6, fun j a b => ?_, by rw [e 54 (by omega)]; exact d8, by rw [e 54 (by omega), e 55 (by omega)]; exact d9⟩
  · rw [e 0 (by omega)] at b
    rw [e 10 (by omega), e (20 + t) (by omega)]
    exact d4 t a b
  · rw [e 0 (by omega)] at b
    rw [e 11 (by omega), e (30 + p) (by omega)]
    exact d5 p a b
  · rw [e 53 (by omega)] at b
    rw [e (60 + j) (by omega)]
    exact d7 j a b
theorem mr_put {h h' z : PH} {F : Int → Int} (M : MR_ h z) (hG : G h') (f : ∀ x k : Int, ¬ x = 196 + 1 → h' x k = h x k) (R : RW_ h' F) (zf : ZF (fun _ => F)) : MR_ h' (zput z F) := by
  obtain ⟨-, ⟨a1, a2, a3⟩, a4, ⟨a5, a6⟩, a7, a8, a9, b1, ⟨b2, b3⟩, b4, ⟨b5, b6⟩, b7, b8⟩ := M
  have e : ∀ x : Int, ¬ x = 1 → zput z F x = z x := fun x h => zput_ne h
  have e0 := e 0 (by omega)
  have e53 := e 53 (by omega)
  have hT := b7.2.1
  have hP := b7.2.2.1
  have hN := b7.2.2.2.1
  refine ⟨hG, ⟨by rw [f _ _ (by omega), e0]; exact a1, by rw [f _ _ (by omega), e0]; exact a2, by rw [f _ _ (by omega), e0]; exact a3⟩, fun k p q => by rw [zput_1]; exact R k p q, ⟨by rw [f _ _ (by omega), e53]; exact a5, fun j k p q r s => ?_⟩, fun t p q => ?_, fun t p q => ?_, fun p a b => ?_, fun g v p q r s => ?_, ⟨by rw [f _ _ (by omega), e 50 (by omega)]; exact b2, fun k p q => by rw [f _ _ (by omega), e 51 (by omega)]; exact b3 k p q⟩, by rw [f _ _ (by omega), e 52 (by omega)]; exact b4, ⟨by rw [f _ _ (by omega), e 54 (by omega)]; exact b5, fun k p q => ?_⟩, zi_put b7 zf, zb_put b8⟩
  · rw [e53] at q
    rw [f _ _ (by omega), e (60 + j) (by omega)]
    exact a6 j k p q r s
  · rw [e0] at q
    rw [f _ _ (by omega), e (20 + t) (by omega), e 10 (by omega)]
    exact a7 t p q
  · rw [e0] at q
    rw [f _ _ (by omega), e (30 + t) (by omega), e 11 (by omega)]
    exact a8 t p q
  · rw [e0] at b
    rw [f _ _ (by omega), f _ _ (by omega), e 2 (by omega), e 3 (by omega)]
    exact a9 p a b
  · rw [e0] at q
    rw [f _ _ (by omega), e (5 + v) (by omega)]
    exact b1 g v p q r s
  · rw [e 54 (by omega)] at q
    rw [f _ _ (by omega), e 55 (by omega)]
    exact b6 k p q
theorem zkeep_53 {z : PH} : zkeep z 53 0 = min 16 (z 53 0 + 1) := by
  unfold zkeep
  rw [if_pos rfl]
theorem zkeep_ne {z : PH} {x : Int} (h : x < 53 ∨ x = 54 ∨ x = 55) : zkeep z x = z x := by
  unfold zkeep
  rw [if_neg (by omega), if_neg (by omega)]
theorem zkeep_k {z : PH} {j : Int} (j0 : 0 ≤ j) (j1 : j < 16) : zkeep z (60 + j) = if z 53 0 = 16 then (if j = 15 then z 1 else z (60 + (j + 1))) else if j = z 53 0 then z 1 else z (60 + j) := by
  unfold zkeep
  rw [if_neg (by omega), if_pos ⟨by omega, by omega⟩]
  by_cases c : z 53 0 = 16
  · rw [if_pos c, if_pos c]
    by_cases e : j = 15
    · rw [if_pos (by omega), if_pos e]
    · rw [if_neg (by omega), if_neg e, show 60 + j + 1 = 60 + (j + 1) by omega]
  · rw [if_neg c, if_neg c]
    by_cases e : j = z 53 0
    · rw [if_pos (by omega), if_pos e]
    · rw [if_neg (by omega), if_neg e]
theorem zi_keep {z : PH} (I : ZI z) : ZI (zkeep z) := zi_e ⟨zkeep_ne (by omega), zkeep_ne (by omega), zkeep_ne (by omega), zkeep_ne (by omega), zkeep_ne (by omega), zkeep_ne (by omega), zkeep_ne (by omega), zkeep_ne (by omega), zkeep_ne (by omega)⟩ I
theorem zb_keep {z : PH} (I : ZI z) (B : ZB z) : ZB (zkeep z) := by
  have e : ∀ x : Int, x < 53 ∨ x = 54 ∨ x = 55 → zkeep z x = z x := fun x h => zkeep_ne h
  have hT := I.2.1
  have hP := I.2.2.1
  obtain ⟨d1, d2, d3, d4, d5, d6, d7, d8, d9⟩ := B
  refine ⟨by rw [e 50 (by omega)]; exact d1, by rw [e 51 (by omega)]; exact d2, by rw [e 52 (by omega)]; exact d3, fun t a b => ?_, fun p a b => ?_, by rw [zkeep_53]; omega, fun j a b => ?_, by rw [e 54 (by omega)]; exact d8, by rw [e 54 (by omega), e 55 (by omega)]; exact d9⟩
  · rw [e 0 (by omega)] at b
    rw [e 10 (by omega), e (20 + t) (by omega)]
    exact d4 t a b
  · rw [e 0 (by omega)] at b
    rw [e 11 (by omega), e (30 + p) (by omega)]
    exact d5 p a b
  · rw [zkeep_53] at b
    rw [zkeep_k a (by omega)]
    split
    · split
      · exact I.1
      · exact d7 _ (by omega) (by omega)
    · split
      · exact I.1
      · exact d7 _ (by omega) (by omega)
/-- what was is kept -/
theorem mr_keep {h h' z : PH} (M : MR_ h z) (hG : G h') (f : ∀ x k : Int, ¬ x = 196 + 3 → ¬ (x = 196 ∧ k = 4) → h' x k = h x k) (e4 : h' 196 4 = min 16 (z 53 0 + 1)) (ek : ∀ j k : Int, 0 ≤ j → j < min 16 (z 53 0 + 1) → 0 ≤ k → k < 61 → h' (196 + 3) (61 * j + k) = if z 53 0 = 16 then (if j = 15 then h (196 + 1) k else h (196 + 3) (61 * (j + 1) + k)) else if j = z 53 0 then h (196 + 1) k else h (196 + 3) (61 * j + k)) : MR_ h' (zkeep z) := by
  obtain ⟨-, ⟨a1, a2, a3⟩, a4, ⟨a5, a6⟩, a7, a8, a9, b1, ⟨b2, b3⟩, b4, ⟨b5, b6⟩, b7, b8⟩ := M
  have e : ∀ x : Int, x < 53 ∨ x = 54 ∨ x = 55 → zkeep z x = z x := fun x h => zkeep_ne h
  have e0 := e 0 (by omega)
  have hT := b7.2.1
  have hP := b7.2.2.1
  have hN := b7.2.2.2.1
  have h53 := b8.2.2.2.2.2.1
  refine ⟨hG, ⟨by rw [f _ _ (by omega) (by omega), e0]; exact a1, by rw [f _ _ (by omega) (by omega), e0]; exact a2, by rw [f _ _ (by omega) (by omega), e0]; exact a3⟩, fun k p q => by rw [f _ _ (by omega) (by omega), e 1 (by omega)]; exact a4 k p q, ⟨by rw [e4, zkeep_53], fun j k p q r s => ?_⟩, fun t p q => ?_, fun t p q => ?_, fun p a b => ?_, fun g v p q r s => ?_, ⟨by rw [f _ _ (by omega) (by omega), e 50 (by omega)]; exact b2, fun k p q => by rw [f _ _ (by omega) (by omega), e 51 (by omega)]; exact b3 k p q⟩, by rw [f _ _ (by omega) (by omega), e 52 (by omega)]; exact b4, ⟨by rw [f _ _ (by omega) (by omega), e 54 (by omega)]; exact b5, fun k p q => ?_⟩, zi_keep b7, zb_keep b7 b8⟩
  · rw [zkeep_53] at q
    rw [ek j k p q r s, zkeep_k p (by omega)]
    by_cases c : z 53 0 = 16
    · rw [if_pos c, if_pos c]
      by_cases c2 : j = 15
      · rw [if_pos c2, if_pos c2]
        exact a4 k r s
      · rw [if_neg c2, if_neg c2]
        exact a6 (j + 1) k (by omega) (by omega) r s
    · rw [if_neg c, if_neg c]
      by_cases c2 : j = z 53 0
      · rw [if_pos c2, if_pos c2]
        exact a4 k r s
      · rw [if_neg c2, if_neg c2]
        exact a6 j k p (by omega) r s
  · rw [e0] at q
    rw [f _ _ (by omega) (by omega), e (20 + t) (by omega), e 10 (by omega)]
    exact a7 t p q
  · rw [e0] at q
    rw [f _ _ (by omega) (by omega), e (30 + t) (by omega), e 11 (by omega)]
    exact a8 t p q
  · rw [e0] at b
    rw [f _ _ (by omega) (by omega), f _ _ (by omega) (by omega), e 2 (by omega), e 3 (by omega)]
    exact a9 p a b
  · rw [e0] at q
    rw [f _ _ (by omega) (by omega), e (5 + v) (by omega)]
    exact b1 g v p q r s
  · rw [e 54 (by omega)] at q
    rw [f _ _ (by omega) (by omega), e 55 (by omega)]
    exact b6 k p q
section X9C
variable {d bc bs : Nat} {Q : PQ} {h h0 z : PH}
set_option maxRecDepth 100000 in
set_option maxHeartbeats 4000000 in
theorem c_X9_lapses {g : Int} (hd : 3 ≤ d) (M : MR_ h z) (g0 : 0 ≤ g) (g1 : g < z 0 2) (k : ∀ h1 : PH, G h1 → (∀ x y : Int, ¬ x = 196 + 16 → h1 x y = h x y) → Q.1 (some (0, zlp z g)) nN h1) : Cl_ yX9_lapses MX9_lapses d bc bs [(2, 196), (0, g)] nN h Q := by
  refine s_enter pn_X9 rfl (Nat.le_of_ble_eq_true rfl) (L := [(2, _), (0, _), (9, 0)]) rfl ?_
  have hG := M.1
  have I := mr_i M
  have hT := I.2.1
  have hP := I.2.2.1
  have hN := I.2.2.2.1
  have nn := M.2.1
  have gg := I.2.2.2.2.2 g g0 g1
  have b44 := (I.1.2.1 g g0 (by omega)).2
  refine s_aload_n dX9_lapses_0 rfl ?_
  refine s_iload_n dX9_lapses_1 rfl ?_
  refine s_iconst dX9_lapses_2 ?_
  refine s_callV (d' := d - 1) (bc' := 0) (bs' := 0) (as := [_, _]) dX9_lapses_3 vf_X9_317 (dd_ (by omega) (by decide)) ⟨Nat.zero_le _, Nat.zero_le _⟩ rfl rfl (Nat.le_of_ble_eq_true rfl) kl_7 rfl io_196 ?_
  refine c_X9_of M g0 g1 (by omega) (by omega) (j := 6) (by omega) ?_
  refine s_istore_n dX9_lapses_6 (by decide) rfl (L' := [_, _, _]) rfl ?_
  refine s_aload_n dX9_lapses_7 rfl ?_
  refine s_callV (d' := d - 1) (bc' := 0) (bs' := 0) (as := []) dX9_lapses_8 vf_X9_311 (dd_ (by omega) (by decide)) ⟨Nat.zero_le _, Nat.zero_le _⟩ rfl rfl (Nat.le_of_ble_eq_true rfl) kl_7 rfl io_196 ?_
  refine c_X9_laysStocks (by omega) M (fun hhG1 ghG1 fhG1 lhG1 => ?_)
  have hG1 := ghG1
  have M := sc_M M ghG1 (sc_16 fhG1)
  have e44 := mr_f M (44 + g) (by omega) (by omega)
  rw [pm_h (by omega)] at e44
  have e9 := lhG1 (z 6 g) (by omega) (by omega)
  have k9 := k _ ghG1 fhG1
  unfold zlp at k9
  refine s_aload_n dX9_lapses_11 rfl ?_
  refine s_getr dX9_lapses_12 fl_X9_7 kl_7 (by decide) rfl io_196 (z := 1) rfl (rf_7_1 hG1.1 io_196) (rk_7_1 io_196).1 ?_
  refine s_bipush dX9_lapses_15 (by decide) ?_
  refine s_iload_n dX9_lapses_17 rfl ?_
  refine s_iadd dX9_lapses_18 ?_
  refine s_iaload dX9_lapses_19 (rk_7_1 io_196) (by omega) (by omega) ?_
  refine s_iconst dX9_lapses_20 ?_
  refine s_icmp_eq (tgt := 49) dX9_lapses_21 (by decide) (by first | exact hG1.2 _ _ | exact hG.2 _ _ | exact b01_in _ | assumption | exact ⟨by omega, by omega⟩) (by first | exact hG1.2 _ _ | exact hG.2 _ _ | exact b01_in _ | assumption | exact ⟨by omega, by omega⟩) (fun c1 => ?_) (fun c1 => ?_)
  · refine s_iconst dX9_lapses_49 ?_
    refine s_goto (tgt := 54) dX9_lapses_50 (by decide) ?_
    refine s_zreturn dX9_lapses_54 rfl (by first | exact Or.inl rfl | exact Or.inr rfl) ?_
    first | (rw [b01_t (c := ¬ z 1 (44 + g) = 0 ∨ (¬ zdd z (z 6 g) = 0 ∧ zkn z (z 6 g) = 0) ∨ zlv z (z 6 g) = 0) (by omega)] at k9; exact k9) | (rw [b01_f (c := ¬ z 1 (44 + g) = 0 ∨ (¬ zdd z (z 6 g) = 0 ∧ zkn z (z 6 g) = 0) ∨ zlv z (z 6 g) = 0) (by omega)] at k9; exact k9)
  · refine s_aload_n dX9_lapses_24 rfl ?_
    refine s_iload_n dX9_lapses_25 rfl ?_
    refine s_callV (d' := d - 1) (bc' := 0) (bs' := 0) (as := [_]) dX9_lapses_26 vf_X9_308 (dd_ (by omega) (by decide)) ⟨Nat.zero_le _, Nat.zero_le _⟩ rfl rfl (Nat.le_of_ble_eq_true rfl) kl_7 rfl io_196 ?_
    refine c_X9_isDead M (by omega) (by omega) ?_
    refine s_if_eq (tgt := 40) dX9_lapses_29 (by decide) (by first | exact hG1.2 _ _ | exact hG.2 _ _ | exact b01_in _ | assumption | exact ⟨by omega, by omega⟩) (fun c2 => ?_) (fun c2 => ?_)
    · have c2 := b01_0.mp c2
      refine s_aload_n dX9_lapses_40 rfl ?_
      refine s_getr dX9_lapses_41 fl_X9_61 kl_7 (by decide) rfl io_196 (z := 28) rfl (rf_7_28 hG1.1 io_196) (rk_7_28 io_196).1 ?_
      refine s_iload_n dX9_lapses_44 rfl ?_
      refine s_iaload dX9_lapses_45 (rk_7_28 io_196) (by omega) (by omega) ?_
      refine s_if_ne (tgt := 53) dX9_lapses_46 (by decide) (by first | exact hG1.2 _ _ | exact hG.2 _ _ | exact b01_in _ | assumption | exact ⟨by omega, by omega⟩) (fun c3 => ?_) (fun c3 => ?_)
      · refine s_iconst dX9_lapses_53 ?_
        refine s_zreturn dX9_lapses_54 rfl (by first | exact Or.inl rfl | exact Or.inr rfl) ?_
        first | (rw [b01_t (c := ¬ z 1 (44 + g) = 0 ∨ (¬ zdd z (z 6 g) = 0 ∧ zkn z (z 6 g) = 0) ∨ zlv z (z 6 g) = 0) (by omega)] at k9; exact k9) | (rw [b01_f (c := ¬ z 1 (44 + g) = 0 ∨ (¬ zdd z (z 6 g) = 0 ∧ zkn z (z 6 g) = 0) ∨ zlv z (z 6 g) = 0) (by omega)] at k9; exact k9)
      · refine s_iconst dX9_lapses_49 ?_
        refine s_goto (tgt := 54) dX9_lapses_50 (by decide) ?_
        refine s_zreturn dX9_lapses_54 rfl (by first | exact Or.inl rfl | exact Or.inr rfl) ?_
        first | (rw [b01_t (c := ¬ z 1 (44 + g) = 0 ∨ (¬ zdd z (z 6 g) = 0 ∧ zkn z (z 6 g) = 0) ∨ zlv z (z 6 g) = 0) (by omega)] at k9; exact k9) | (rw [b01_f (c := ¬ z 1 (44 + g) = 0 ∨ (¬ zdd z (z 6 g) = 0 ∧ zkn z (z 6 g) = 0) ∨ zlv z (z 6 g) = 0) (by omega)] at k9; exact k9)
    · have c2 := b01_n.mp c2
      refine s_aload_n dX9_lapses_32 rfl ?_
      refine s_iload_n dX9_lapses_33 rfl ?_
      refine s_callV (d' := d - 1) (bc' := 0) (bs' := 0) (as := [_]) dX9_lapses_34 vf_X9_314 (dd_ (by omega) (by decide)) ⟨Nat.zero_le _, Nat.zero_le _⟩ rfl rfl (Nat.le_of_ble_eq_true rfl) kl_7 rfl io_196 ?_
      refine c_X9_isKin M (by omega) (by omega) ?_
      have kb := zkn_01 (z := z) (z 6 g)
      refine s_if_eq (tgt := 49) dX9_lapses_37 (by decide) (by first | exact hG1.2 _ _ | exact hG.2 _ _ | exact b01_in _ | assumption | exact ⟨by omega, by omega⟩) (fun c4 => ?_) (fun c4 => ?_)
      · refine s_iconst dX9_lapses_49 ?_
        refine s_goto (tgt := 54) dX9_lapses_50 (by decide) ?_
        refine s_zreturn dX9_lapses_54 rfl (by first | exact Or.inl rfl | exact Or.inr rfl) ?_
        first | (rw [b01_t (c := ¬ z 1 (44 + g) = 0 ∨ (¬ zdd z (z 6 g) = 0 ∧ zkn z (z 6 g) = 0) ∨ zlv z (z 6 g) = 0) (by omega)] at k9; exact k9) | (rw [b01_f (c := ¬ z 1 (44 + g) = 0 ∨ (¬ zdd z (z 6 g) = 0 ∧ zkn z (z 6 g) = 0) ∨ zlv z (z 6 g) = 0) (by omega)] at k9; exact k9)
      · refine s_aload_n dX9_lapses_40 rfl ?_
        refine s_getr dX9_lapses_41 fl_X9_61 kl_7 (by decide) rfl io_196 (z := 28) rfl (rf_7_28 hG1.1 io_196) (rk_7_28 io_196).1 ?_
        refine s_iload_n dX9_lapses_44 rfl ?_
        refine s_iaload dX9_lapses_45 (rk_7_28 io_196) (by omega) (by omega) ?_
        refine s_if_ne (tgt := 53) dX9_lapses_46 (by decide) (by first | exact hG1.2 _ _ | exact hG.2 _ _ | exact b01_in _ | assumption | exact ⟨by omega, by omega⟩) (fun c5 => ?_) (fun c5 => ?_)
        · refine s_iconst dX9_lapses_53 ?_
          refine s_zreturn dX9_lapses_54 rfl (by first | exact Or.inl rfl | exact Or.inr rfl) ?_
          first | (rw [b01_t (c := ¬ z 1 (44 + g) = 0 ∨ (¬ zdd z (z 6 g) = 0 ∧ zkn z (z 6 g) = 0) ∨ zlv z (z 6 g) = 0) (by omega)] at k9; exact k9) | (rw [b01_f (c := ¬ z 1 (44 + g) = 0 ∨ (¬ zdd z (z 6 g) = 0 ∧ zkn z (z 6 g) = 0) ∨ zlv z (z 6 g) = 0) (by omega)] at k9; exact k9)
        · refine s_iconst dX9_lapses_49 ?_
          refine s_goto (tgt := 54) dX9_lapses_50 (by decide) ?_
          refine s_zreturn dX9_lapses_54 rfl (by first | exact Or.inl rfl | exact Or.inr rfl) ?_
          first | (rw [b01_t (c := ¬ z 1 (44 + g) = 0 ∨ (¬ zdd z (z 6 g) = 0 ∧ zkn z (z 6 g) = 0) ∨ zlv z (z 6 g) = 0) (by omega)] at k9; exact k9) | (rw [b01_f (c := ¬ z 1 (44 + g) = 0 ∨ (¬ zdd z (z 6 g) = 0 ∧ zkn z (z 6 g) = 0) ∨ zlv z (z 6 g) = 0) (by omega)] at k9; exact k9)
set_option maxRecDepth 100000 in
set_option maxHeartbeats 4000000 in
theorem c_X9_adeemed {g : Int} (hd : 3 ≤ d) (M : MR_ h z) (g0 : 0 ≤ g) (g1 : g < z 0 2) (k : Q.1 (some (0, zad z g)) nN h) : Cl_ yX9_adeemed MX9_adeemed d bc bs [(2, 196), (0, g)] nN h Q := by
  refine s_enter pn_X9 rfl (Nat.le_of_ble_eq_true rfl) (L := [(2, _), (0, _), (9, 0)]) rfl ?_
  have hG := M.1
  have I := mr_i M
  have hT := I.2.1
  have hP := I.2.2.1
  have hN := I.2.2.2.1
  have nn := M.2.1
  have gg := I.2.2.2.2.2 g g0 g1
  have hk := gg.1
  refine s_aload_n dX9_adeemed_0 rfl ?_
  refine s_iload_n dX9_adeemed_1 rfl ?_
  refine s_iconst dX9_adeemed_2 ?_
  refine s_callV (d' := d - 1) (bc' := 0) (bs' := 0) (as := [_, _]) dX9_adeemed_3 vf_X9_317 (dd_ (by omega) (by decide)) ⟨Nat.zero_le _, Nat.zero_le _⟩ rfl rfl (Nat.le_of_ble_eq_true rfl) kl_7 rfl io_196 ?_
  refine c_X9_of M g0 g1 (by omega) (by omega) (j := 7) (by omega) ?_
  refine s_istore_n dX9_adeemed_6 (by decide) rfl (L' := [_, _, _]) rfl ?_
  refine s_aload_n dX9_adeemed_7 rfl ?_
  refine s_iload_n dX9_adeemed_8 rfl ?_
  refine s_iconst dX9_adeemed_9 ?_
  refine s_callV (d' := d - 1) (bc' := 0) (bs' := 0) (as := [_, _]) dX9_adeemed_10 vf_X9_317 (dd_ (by omega) (by decide)) ⟨Nat.zero_le _, Nat.zero_le _⟩ rfl rfl (Nat.le_of_ble_eq_true rfl) kl_7 rfl io_196 ?_
  refine c_X9_of M g0 g1 (by omega) (by omega) (j := 5) (by omega) ?_
  refine s_if_ne (tgt := 25) dX9_adeemed_13 (by decide) (by first | exact hG.2 _ _ | exact b01_in _ | assumption | exact ⟨by omega, by omega⟩) (fun c1 => ?_) (fun c1 => ?_)
  · refine s_iconst dX9_adeemed_25 ?_
    refine s_goto (tgt := 42) dX9_adeemed_26 (by decide) ?_
    refine s_ireturn dX9_adeemed_42 rfl ?_
    unfold zad at k
    first
      | (rw [if_pos (by omega)] at k; exact k)
      | (rw [if_neg (by omega), if_pos (by omega)] at k; exact k)
      | (rw [if_neg (by omega), if_neg (by omega)] at k; exact k)
  · refine s_aload_n dX9_adeemed_16 rfl ?_
    refine s_iload_n dX9_adeemed_17 rfl ?_
    refine s_iconst dX9_adeemed_18 ?_
    refine s_callV (d' := d - 1) (bc' := 0) (bs' := 0) (as := [_, _]) dX9_adeemed_19 vf_X9_300 (dd_ (by omega) (by decide)) ⟨Nat.zero_le _, Nat.zero_le _⟩ rfl rfl (Nat.le_of_ble_eq_true rfl) kl_7 rfl io_196 ?_
    have t7 := gg.2.2.1 (Or.inl (by omega))
    have b7 := I.1.1 (z 7 g) t7.1 (by omega)
    refine c_X9_ofThing M (by omega) (by omega) (by omega) (by omega) (j := 8 + z 7 g) (by omega) ?_
    refine s_if_ne (tgt := 29) dX9_adeemed_22 (by decide) (by first | exact hG.2 _ _ | exact b01_in _ | assumption | exact ⟨by omega, by omega⟩) (fun c2 => ?_) (fun c2 => ?_)
    · refine s_aload_n dX9_adeemed_29 rfl ?_
      refine s_iload_n dX9_adeemed_30 rfl ?_
      refine s_callV (d' := d - 1) (bc' := 0) (bs' := 0) (as := [_]) dX9_adeemed_31 vf_X9_305 (dd_ (by omega) (by decide)) ⟨Nat.zero_le _, Nat.zero_le _⟩ rfl rfl (Nat.le_of_ble_eq_true rfl) kl_7 rfl io_196 ?_
      have br := zbr_bd I.1 (t := z 7 g) (by omega) (by omega)
      refine c_X9_bringsOf (by omega) M (by omega) (by omega) ?_
      refine s_if_ne (tgt := 41) dX9_adeemed_34 (by decide) (by first | exact hG.2 _ _ | exact b01_in _ | assumption | exact ⟨by omega, by omega⟩) (fun c3 => ?_) (fun c3 => ?_)
      · refine s_iconst dX9_adeemed_41 ?_
        refine s_ireturn dX9_adeemed_42 rfl ?_
        unfold zad at k
        first
          | (rw [if_pos (by omega)] at k; exact k)
          | (rw [if_neg (by omega), if_pos (by omega)] at k; exact k)
          | (rw [if_neg (by omega), if_neg (by omega)] at k; exact k)
      · refine s_iconst dX9_adeemed_37 ?_
        refine s_goto (tgt := 42) dX9_adeemed_38 (by decide) ?_
        refine s_ireturn dX9_adeemed_42 rfl ?_
        unfold zad at k
        first
          | (rw [if_pos (by omega)] at k; exact k)
          | (rw [if_neg (by omega), if_pos (by omega)] at k; exact k)
          | (rw [if_neg (by omega), if_neg (by omega)] at k; exact k)
    · refine s_iconst dX9_adeemed_25 ?_
      refine s_goto (tgt := 42) dX9_adeemed_26 (by decide) ?_
      refine s_ireturn dX9_adeemed_42 rfl ?_
      unfold zad at k
      first
        | (rw [if_pos (by omega)] at k; exact k)
        | (rw [if_neg (by omega), if_pos (by omega)] at k; exact k)
        | (rw [if_neg (by omega), if_neg (by omega)] at k; exact k)
set_option maxRecDepth 100000 in
set_option maxHeartbeats 4000000 in
theorem lp_X9_living  (hd : 2 ≤ d) (M : MR_ h z) (k : Q.1 (some (0, sumI (fun p => if z 1 (32 + p) = 0 then 1 else 0) 0 (z 0 1).toNat)) nN h) : ∀ (m : Nat) (p w : Int), (0 ≤ p) → (p + m = z 0 1) → (w = sumI (fun p => if z 1 (32 + p) = 0 then 1 else 0) 0 p.toNat) → S_ MX9_living d bc bs Q 4 [(2, 196), (0, w), (0, p)] [] nN h := by
  intro m
  induction m with
  | zero =>
    intro p w p0 pm hw
    have hG := M.1
    have I := mr_i M
    have hT := I.2.1
    have hP := I.2.2.1
    have hN := I.2.2.2.1
    have nn := M.2.1
    refine s_iload_n dX9_living_4 rfl ?_
    refine s_aload_n dX9_living_5 rfl ?_
    refine s_geti dX9_living_6 fl_X9_281 kl_7 (by decide) rfl io_196 (z := 6) rfl ?_
    refine s_icmp_ge (tgt := 34) dX9_living_9 (by decide) (by first | exact hG.2 _ _ | exact b01_in _ | assumption | exact ⟨by omega, by omega⟩) (by first | exact hG.2 _ _ | exact b01_in _ | assumption | exact ⟨by omega, by omega⟩) (fun c1 => ?_) (fun c1 => ?_)
    · refine s_iload_n dX9_living_34 rfl ?_
      rw [hw, show p = z 0 1 by omega]
      exact s_ireturn dX9_living_35 rfl k
    · exact absurd c1 (by omega)
  | succ m ih =>
    intro p w p0 pm hw
    have hG := M.1
    have I := mr_i M
    have hT := I.2.1
    have hP := I.2.2.1
    have hN := I.2.2.2.1
    have nn := M.2.1
    refine s_iload_n dX9_living_4 rfl ?_
    refine s_aload_n dX9_living_5 rfl ?_
    refine s_geti dX9_living_6 fl_X9_281 kl_7 (by decide) rfl io_196 (z := 6) rfl ?_
    refine s_icmp_ge (tgt := 34) dX9_living_9 (by decide) (by first | exact hG.2 _ _ | exact b01_in _ | assumption | exact ⟨by omega, by omega⟩) (by first | exact hG.2 _ _ | exact b01_in _ | assumption | exact ⟨by omega, by omega⟩) (fun c1 => ?_) (fun c1 => ?_)
    · exact absurd c1 (by omega)
    · refine s_iload_n dX9_living_12 rfl ?_
      refine s_aload_n dX9_living_13 rfl ?_
      refine s_iload_n dX9_living_14 rfl ?_
      refine s_callV (d' := d - 1) (bc' := 0) (bs' := 0) (as := [_]) dX9_living_15 vf_X9_308 (dd_ (by omega) (by decide)) ⟨Nat.zero_le _, Nat.zero_le _⟩ rfl rfl (Nat.le_of_ble_eq_true rfl) kl_7 rfl io_196 ?_
      refine c_X9_isDead M (by omega) (by omega) ?_
      have ed : zdd z p = z 1 (32 + p) := rfl
      refine s_if_eq (tgt := 25) dX9_living_18 (by decide) (by first | exact hG.2 _ _ | exact b01_in _ | assumption | exact ⟨by omega, by omega⟩) (fun c2 => ?_) (fun c2 => ?_)
      · have c2 := b01_0.mp c2
        refine s_iconst dX9_living_25 ?_
        refine s_iadd dX9_living_26 ?_
        refine s_istore_n dX9_living_27 (by decide) rfl (L' := [_, _, _]) rfl ?_
        refine s_iinc dX9_living_28 rfl (by decide) rfl (L' := [_, _, _]) rfl ?_
        refine s_goto (tgt := 4) dX9_living_31 (by decide) ?_
        exact ih (p + 1) _ (by omega) (by omega) (by rw [sumI_up _ p0, ← hw] <;> first | rw [if_pos (by omega)] | rw [if_neg (by omega)])
      · have c2 := b01_n.mp c2
        refine s_iconst dX9_living_21 ?_
        refine s_goto (tgt := 26) dX9_living_22 (by decide) ?_
        refine s_iadd dX9_living_26 ?_
        refine s_istore_n dX9_living_27 (by decide) rfl (L' := [_, _, _]) rfl ?_
        refine s_iinc dX9_living_28 rfl (by decide) rfl (L' := [_, _, _]) rfl ?_
        refine s_goto (tgt := 4) dX9_living_31 (by decide) ?_
        exact ih (p + 1) _ (by omega) (by omega) (by rw [sumI_up _ p0, ← hw] <;> first | rw [if_pos (by omega)] | rw [if_neg (by omega)])
set_option maxRecDepth 100000 in
set_option maxHeartbeats 4000000 in
theorem c_X9_living  (hd : 2 ≤ d) (M : MR_ h z) (k : Q.1 (some (0, sumI (fun p => if z 1 (32 + p) = 0 then 1 else 0) 0 (z 0 1).toNat)) nN h) : Cl_ yX9_living MX9_living d bc bs [(2, 196)] nN h Q := by
  refine s_enter pn_X9 rfl (Nat.le_of_ble_eq_true rfl) (L := [(2, _), (9, 0), (9, 0)]) rfl ?_
  have hG := M.1
  have I := mr_i M
  have hT := I.2.1
  have hP := I.2.2.1
  have hN := I.2.2.2.1
  have nn := M.2.1
  refine s_iconst dX9_living_0 ?_
  refine s_istore_n dX9_living_1 (by decide) rfl (L' := [_, _, _]) rfl ?_
  refine s_iconst dX9_living_2 ?_
  refine s_istore_n dX9_living_3 (by decide) rfl (L' := [_, _, _]) rfl ?_
  exact lp_X9_living hd M k (z 0 1).toNat 0 0 (by omega) (by omega) rfl
set_option maxRecDepth 100000 in
set_option maxHeartbeats 4000000 in
theorem lp_X9_broughtAll  (hd : 2 ≤ d) (M : MR_ h z) (k : Q.1 (some (0, sumI (fun p => zbr z p) 0 (z 0 0).toNat)) nN h) : ∀ (m : Nat) (p w : Int), (0 ≤ p) → (p + m = z 0 0) → (w = sumI (fun p => zbr z p) 0 p.toNat) → S_ MX9_broughtAll d bc bs Q 4 [(2, 196), (0, w), (0, p)] [] nN h := by
  intro m
  induction m with
  | zero =>
    intro p w p0 pm hw
    have hG := M.1
    have I := mr_i M
    have hT := I.2.1
    have hP := I.2.2.1
    have hN := I.2.2.2.1
    have nn := M.2.1
    refine s_iload_n dX9_broughtAll_4 rfl ?_
    refine s_aload_n dX9_broughtAll_5 rfl ?_
    refine s_geti dX9_broughtAll_6 fl_X9_278 kl_7 (by decide) rfl io_196 (z := 5) rfl ?_
    refine s_icmp_ge (tgt := 26) dX9_broughtAll_9 (by decide) (by first | exact hG.2 _ _ | exact b01_in _ | assumption | exact ⟨by omega, by omega⟩) (by first | exact hG.2 _ _ | exact b01_in _ | assumption | exact ⟨by omega, by omega⟩) (fun c1 => ?_) (fun c1 => ?_)
    · refine s_iload_n dX9_broughtAll_26 rfl ?_
      rw [hw, show p = z 0 0 by omega]
      exact s_ireturn dX9_broughtAll_27 rfl k
    · exact absurd c1 (by omega)
  | succ m ih =>
    intro p w p0 pm hw
    have hG := M.1
    have I := mr_i M
    have hT := I.2.1
    have hP := I.2.2.1
    have hN := I.2.2.2.1
    have nn := M.2.1
    refine s_iload_n dX9_broughtAll_4 rfl ?_
    refine s_aload_n dX9_broughtAll_5 rfl ?_
    refine s_geti dX9_broughtAll_6 fl_X9_278 kl_7 (by decide) rfl io_196 (z := 5) rfl ?_
    refine s_icmp_ge (tgt := 26) dX9_broughtAll_9 (by decide) (by first | exact hG.2 _ _ | exact b01_in _ | assumption | exact ⟨by omega, by omega⟩) (by first | exact hG.2 _ _ | exact b01_in _ | assumption | exact ⟨by omega, by omega⟩) (fun c1 => ?_) (fun c1 => ?_)
    · exact absurd c1 (by omega)
    · refine s_iload_n dX9_broughtAll_12 rfl ?_
      refine s_aload_n dX9_broughtAll_13 rfl ?_
      refine s_iload_n dX9_broughtAll_14 rfl ?_
      refine s_callV (d' := d - 1) (bc' := 0) (bs' := 0) (as := [_]) dX9_broughtAll_15 vf_X9_305 (dd_ (by omega) (by decide)) ⟨Nat.zero_le _, Nat.zero_le _⟩ rfl rfl (Nat.le_of_ble_eq_true rfl) kl_7 rfl io_196 ?_
      refine c_X9_bringsOf (by omega) M (by omega) (by omega) ?_
      refine s_iadd dX9_broughtAll_18 ?_
      refine s_istore_n dX9_broughtAll_19 (by decide) rfl (L' := [_, _, _]) rfl ?_
      refine s_iinc dX9_broughtAll_20 rfl (by decide) rfl (L' := [_, _, _]) rfl ?_
      refine s_goto (tgt := 4) dX9_broughtAll_23 (by decide) ?_
      exact ih (p + 1) _ (by omega) (by omega) (by rw [sumI_up _ p0, ← hw] <;> first | rw [if_pos (by omega)] | rw [if_neg (by omega)])
set_option maxRecDepth 100000 in
set_option maxHeartbeats 4000000 in
theorem c_X9_broughtAll  (hd : 2 ≤ d) (M : MR_ h z) (k : Q.1 (some (0, sumI (fun p => zbr z p) 0 (z 0 0).toNat)) nN h) : Cl_ yX9_broughtAll MX9_broughtAll d bc bs [(2, 196)] nN h Q := by
  refine s_enter pn_X9 rfl (Nat.le_of_ble_eq_true rfl) (L := [(2, _), (9, 0), (9, 0)]) rfl ?_
  have hG := M.1
  have I := mr_i M
  have hT := I.2.1
  have hP := I.2.2.1
  have hN := I.2.2.2.1
  have nn := M.2.1
  refine s_iconst dX9_broughtAll_0 ?_
  refine s_istore_n dX9_broughtAll_1 (by decide) rfl (L' := [_, _, _]) rfl ?_
  refine s_iconst dX9_broughtAll_2 ?_
  refine s_istore_n dX9_broughtAll_3 (by decide) rfl (L' := [_, _, _]) rfl ?_
  exact lp_X9_broughtAll hd M k (z 0 0).toNat 0 0 (by omega) (by omega) rfl
set_option maxRecDepth 100000 in
set_option maxHeartbeats 4000000 in
theorem c_X9_estateNow  (hd : 3 ≤ d) (M : MR_ h z) (k : Q.1 (some (0, zes z)) nN h) : Cl_ yX9_estateNow MX9_estateNow d bc bs [(2, 196)] nN h Q := by
  refine s_enter pn_X9 rfl (Nat.le_of_ble_eq_true rfl) (L := [(2, _)]) rfl ?_
  have hG := M.1
  have I := mr_i M
  have hT := I.2.1
  have hP := I.2.2.1
  have hN := I.2.2.2.1
  have nn := M.2.1
  have e := mr_f M 56 (by omega) (by omega)
  rw [pm_h (by omega)] at e
  refine s_aload_n dX9_estateNow_0 rfl ?_
  refine s_getr dX9_estateNow_1 fl_X9_7 kl_7 (by decide) rfl io_196 (z := 1) rfl (rf_7_1 hG.1 io_196) (rk_7_1 io_196).1 ?_
  refine s_bipush dX9_estateNow_4 (by decide) ?_
  refine s_iaload dX9_estateNow_6 (rk_7_1 io_196) (by omega) (by omega) ?_
  refine s_aload_n dX9_estateNow_7 rfl ?_
  refine s_callV (d' := d - 1) (bc' := 0) (bs' := 0) (as := []) dX9_estateNow_8 vf_X9_350 (dd_ (by omega) (by decide)) ⟨Nat.zero_le _, Nat.zero_le _⟩ rfl rfl (Nat.le_of_ble_eq_true rfl) kl_7 rfl io_196 ?_
  refine c_X9_broughtAll (by omega) M ?_
  rw [e]
  refine s_iadd dX9_estateNow_11 ?_
  exact s_ireturn dX9_estateNow_12 rfl k
set_option maxRecDepth 100000 in
set_option maxHeartbeats 4000000 in
theorem c_X9_fault  (M : MR_ h z) (k : MK_ Q h z 0 (z 52 0)) : Cl_ yX9_fault MX9_fault d bc bs [(2, 196)] nN h Q := by
  refine s_enter pn_X9 rfl (Nat.le_of_ble_eq_true rfl) (L := [(2, _)]) rfl ?_
  have hG := M.1
  have I := mr_i M
  have hT := I.2.1
  have hP := I.2.2.1
  have hN := I.2.2.2.1
  have nn := M.2.1
  refine s_aload_n dX9_fault_0 rfl ?_
  refine s_iconst dX9_fault_1 ?_
  refine s_putiG 0 dX9_fault_2 fl_X9_98 kl_7 (by decide) rfl rfl io_196 (z := 0) rfl (by decide +kernel) hG (by first | exact hG.2 _ _ | exact b01_in _ | assumption | exact ⟨by omega, by omega⟩) (fun hG1 => ?_)
  obtain ⟨M, fm, th⟩ := mr_th M hG1
  refine s_aload_n dX9_fault_5 rfl ?_
  refine s_geti dX9_fault_6 fl_X9_39 kl_7 (by decide) rfl io_196 (z := 17) rfl ?_
  rw [M.2.2.2.2.2.2.2.2.2.1]
  exact s_ireturn dX9_fault_9 rfl (k _ M fm th)
set_option maxRecDepth 100000 in
set_option maxHeartbeats 4000000 in
theorem c_X9_name {q i t : Int} (hd : 3 ≤ d) (M : MR_ h z) (hq : q = 0 ∨ q = 1) (hi : inI i) (ht : inI t) (k : (if q = 0 then 0 ≤ i ∧ i < z 0 0 else 0 ≤ i ∧ i < z 0 1) → MK_ Q h z 0 (zname z q i t)) (k1 : ¬ (if q = 0 then 0 ≤ i ∧ i < z 0 0 else 0 ≤ i ∧ i < z 0 1) → MK_ Q h z 1 0) : Cl_ yX9_name MX9_name d bc bs [(2, 196), (0, q), (0, i), (0, t)] nN h Q := by
  refine s_enter pn_X9 rfl (Nat.le_of_ble_eq_true rfl) (L := [(2, _), (0, _), (0, _), (0, _)]) rfl ?_
  have hG := M.1
  have I := mr_i M
  have hT := I.2.1
  have hP := I.2.2.1
  have hN := I.2.2.2.1
  have nn := M.2.1
  refine s_aload_n dX9_name_0 rfl ?_
  refine s_iload_n dX9_name_1 rfl ?_
  refine s_if_eq (tgt := 16) dX9_name_2 (by decide) (by first | exact hG.2 _ _ | exact b01_in _ | assumption | exact ⟨by omega, by omega⟩) (fun c1 => ?_) (fun c1 => ?_)
  · refine s_aload_n dX9_name_16 rfl ?_
    refine s_iload_n dX9_name_17 rfl ?_
    refine s_callV (d' := d - 1) (bc' := 0) (bs' := 0) (as := [_]) dX9_name_18 vf_X9_294 (dd_ (by omega) (by decide)) ⟨Nat.zero_le _, Nat.zero_le _⟩ rfl rfl (Nat.le_of_ble_eq_true rfl) kl_7 rfl io_196 ?_
    refine c_X9_isThing (by omega) M hi ?_
    refine s_if_eq (tgt := 28) dX9_name_21 (by decide) (by first | exact hG.2 _ _ | exact b01_in _ | assumption | exact ⟨by omega, by omega⟩) (fun c2 => ?_) (fun c2 => ?_)
    · have c2 := b01_0.mp c2
      refine s_iconst dX9_name_28 ?_
      refine s_putiG 0 dX9_name_29 fl_X9_98 kl_7 (by decide) rfl rfl io_196 (z := 0) rfl (by decide +kernel) hG (by first | exact hG.2 _ _ | exact b01_in _ | assumption | exact ⟨by omega, by omega⟩) (fun hG1 => ?_)
      obtain ⟨M, fm, th⟩ := mr_th M hG1
      refine s_aload_n dX9_name_32 rfl ?_
      refine s_geti dX9_name_33 fl_X9_98 kl_7 (by decide) rfl io_196 (z := 0) rfl ?_
      rw [th]
      refine s_if_le (tgt := 43) dX9_name_36 (by decide) (by first | exact hG1.2 _ _ | exact hG.2 _ _ | exact b01_in _ | assumption | exact ⟨by omega, by omega⟩) (fun c3 => ?_) (fun c3 => ?_)
      · exact absurd c3 (by decide)
      · refine s_iconst dX9_name_39 ?_
        refine s_goto (tgt := 66) dX9_name_40 (by decide) ?_
        exact s_ireturn dX9_name_66 rfl (k1 (by first | (rw [if_pos (by omega)]; omega) | (rw [if_neg (by omega)]; omega)) _ M fm th)
    · have c2 := b01_n.mp c2
      refine s_iconst dX9_name_24 ?_
      refine s_goto (tgt := 29) dX9_name_25 (by decide) ?_
      refine s_putiG 0 dX9_name_29 fl_X9_98 kl_7 (by decide) rfl rfl io_196 (z := 0) rfl (by decide +kernel) hG (by first | exact hG.2 _ _ | exact b01_in _ | assumption | exact ⟨by omega, by omega⟩) (fun hG2 => ?_)
      obtain ⟨M, fm, th⟩ := mr_th M hG2
      refine s_aload_n dX9_name_32 rfl ?_
      refine s_geti dX9_name_33 fl_X9_98 kl_7 (by decide) rfl io_196 (z := 0) rfl ?_
      rw [th]
      refine s_if_le (tgt := 43) dX9_name_36 (by decide) (by first | exact hG2.2 _ _ | exact hG.2 _ _ | exact b01_in _ | assumption | exact ⟨by omega, by omega⟩) (fun c4 => ?_) (fun c4 => ?_)
      · refine s_iload_n dX9_name_43 rfl ?_
        refine s_if_eq (tgt := 56) dX9_name_44 (by decide) (by first | exact hG2.2 _ _ | exact hG.2 _ _ | exact b01_in _ | assumption | exact ⟨by omega, by omega⟩) (fun c5 => ?_) (fun c5 => ?_)
        · refine s_aload_n dX9_name_56 rfl ?_
          refine s_getr dX9_name_57 fl_X9_19 kl_7 (by decide) rfl io_196 (z := 8) rfl (rf_7_8 hG2.1 io_196) (rk_7_8 io_196).1 ?_
          refine s_iload_n dX9_name_60 rfl ?_
          refine s_iaload dX9_name_61 (rk_7_8 io_196) (by omega) (by omega) ?_
          have k9 := k (by rw [if_pos (by omega)]; omega) _ M fm th
          unfold zname at k9
          rw [if_pos (by omega)] at k9
          have lb := (mr_b M).2.2.2.1 i (by omega) (by omega)
          have hl : lq_ (z (20 + i)) (z 10 i).toNat := fun j a b => lb.2 j a (by omega)
          rw [M.2.2.2.2.1 i (by omega) (by omega)]
          refine s_iload_n dX9_name_62 rfl ?_
          refine s_callS (d' := d - 1) (bc' := 0) (bs' := 0) (as := [_, _]) dX9_name_63 sf_X9_297 (dd_ (by omega) (by decide)) ⟨Nat.zero_le _, Nat.zero_le _⟩ rfl rfl (Nat.le_of_ble_eq_true rfl) ?_
          refine c_X9_letter (by omega) (by omega) hl ht ?_
          rw [show (((z 10 i).toNat : Nat) : Int) = z 10 i by omega]
          exact s_ireturn dX9_name_66 rfl k9
        · refine s_aload_n dX9_name_47 rfl ?_
          refine s_getr dX9_name_48 fl_X9_22 kl_7 (by decide) rfl io_196 (z := 9) rfl (rf_7_9 hG2.1 io_196) (rk_7_9 io_196).1 ?_
          refine s_iload_n dX9_name_51 rfl ?_
          refine s_iaload dX9_name_52 (rk_7_9 io_196) (by omega) (by omega) ?_
          have k9 := k (by rw [if_neg (by omega)]; omega) _ M fm th
          unfold zname at k9
          rw [if_neg (by omega)] at k9
          have lb := (mr_b M).2.2.2.2.1 i (by omega) (by omega)
          have hl : lq_ (z (30 + i)) (z 11 i).toNat := fun j a b => lb.2 j a (by omega)
          rw [M.2.2.2.2.2.1 i (by omega) (by omega)]
          refine s_goto (tgt := 62) dX9_name_53 (by decide) ?_
          refine s_iload_n dX9_name_62 rfl ?_
          refine s_callS (d' := d - 1) (bc' := 0) (bs' := 0) (as := [_, _]) dX9_name_63 sf_X9_297 (dd_ (by omega) (by decide)) ⟨Nat.zero_le _, Nat.zero_le _⟩ rfl rfl (Nat.le_of_ble_eq_true rfl) ?_
          refine c_X9_letter (by omega) (by omega) hl ht ?_
          rw [show (((z 11 i).toNat : Nat) : Int) = z 11 i by omega]
          exact s_ireturn dX9_name_66 rfl k9
      · exact absurd c4 (by decide)
  · refine s_aload_n dX9_name_5 rfl ?_
    refine s_iload_n dX9_name_6 rfl ?_
    refine s_callV (d' := d - 1) (bc' := 0) (bs' := 0) (as := [_]) dX9_name_7 vf_X9_290 (dd_ (by omega) (by decide)) ⟨Nat.zero_le _, Nat.zero_le _⟩ rfl rfl (Nat.le_of_ble_eq_true rfl) kl_7 rfl io_196 ?_
    refine c_X9_isPerson (by omega) M hi ?_
    refine s_if_eq (tgt := 28) dX9_name_10 (by decide) (by first | exact hG.2 _ _ | exact b01_in _ | assumption | exact ⟨by omega, by omega⟩) (fun c6 => ?_) (fun c6 => ?_)
    · have c6 := b01_0.mp c6
      refine s_iconst dX9_name_28 ?_
      refine s_putiG 0 dX9_name_29 fl_X9_98 kl_7 (by decide) rfl rfl io_196 (z := 0) rfl (by decide +kernel) hG (by first | exact hG.2 _ _ | exact b01_in _ | assumption | exact ⟨by omega, by omega⟩) (fun hG3 => ?_)
      obtain ⟨M, fm, th⟩ := mr_th M hG3
      refine s_aload_n dX9_name_32 rfl ?_
      refine s_geti dX9_name_33 fl_X9_98 kl_7 (by decide) rfl io_196 (z := 0) rfl ?_
      rw [th]
      refine s_if_le (tgt := 43) dX9_name_36 (by decide) (by first | exact hG3.2 _ _ | exact hG.2 _ _ | exact b01_in _ | assumption | exact ⟨by omega, by omega⟩) (fun c7 => ?_) (fun c7 => ?_)
      · exact absurd c7 (by decide)
      · refine s_iconst dX9_name_39 ?_
        refine s_goto (tgt := 66) dX9_name_40 (by decide) ?_
        exact s_ireturn dX9_name_66 rfl (k1 (by first | (rw [if_pos (by omega)]; omega) | (rw [if_neg (by omega)]; omega)) _ M fm th)
    · have c6 := b01_n.mp c6
      refine s_goto (tgt := 24) dX9_name_13 (by decide) ?_
      refine s_iconst dX9_name_24 ?_
      refine s_goto (tgt := 29) dX9_name_25 (by decide) ?_
      refine s_putiG 0 dX9_name_29 fl_X9_98 kl_7 (by decide) rfl rfl io_196 (z := 0) rfl (by decide +kernel) hG (by first | exact hG.2 _ _ | exact b01_in _ | assumption | exact ⟨by omega, by omega⟩) (fun hG4 => ?_)
      obtain ⟨M, fm, th⟩ := mr_th M hG4
      refine s_aload_n dX9_name_32 rfl ?_
      refine s_geti dX9_name_33 fl_X9_98 kl_7 (by decide) rfl io_196 (z := 0) rfl ?_
      rw [th]
      refine s_if_le (tgt := 43) dX9_name_36 (by decide) (by first | exact hG4.2 _ _ | exact hG.2 _ _ | exact b01_in _ | assumption | exact ⟨by omega, by omega⟩) (fun c8 => ?_) (fun c8 => ?_)
      · refine s_iload_n dX9_name_43 rfl ?_
        refine s_if_eq (tgt := 56) dX9_name_44 (by decide) (by first | exact hG4.2 _ _ | exact hG.2 _ _ | exact b01_in _ | assumption | exact ⟨by omega, by omega⟩) (fun c9 => ?_) (fun c9 => ?_)
        · refine s_aload_n dX9_name_56 rfl ?_
          refine s_getr dX9_name_57 fl_X9_19 kl_7 (by decide) rfl io_196 (z := 8) rfl (rf_7_8 hG4.1 io_196) (rk_7_8 io_196).1 ?_
          refine s_iload_n dX9_name_60 rfl ?_
          refine s_iaload dX9_name_61 (rk_7_8 io_196) (by omega) (by omega) ?_
          have k9 := k (by rw [if_pos (by omega)]; omega) _ M fm th
          unfold zname at k9
          rw [if_pos (by omega)] at k9
          have lb := (mr_b M).2.2.2.1 i (by omega) (by omega)
          have hl : lq_ (z (20 + i)) (z 10 i).toNat := fun j a b => lb.2 j a (by omega)
          rw [M.2.2.2.2.1 i (by omega) (by omega)]
          refine s_iload_n dX9_name_62 rfl ?_
          refine s_callS (d' := d - 1) (bc' := 0) (bs' := 0) (as := [_, _]) dX9_name_63 sf_X9_297 (dd_ (by omega) (by decide)) ⟨Nat.zero_le _, Nat.zero_le _⟩ rfl rfl (Nat.le_of_ble_eq_true rfl) ?_
          refine c_X9_letter (by omega) (by omega) hl ht ?_
          rw [show (((z 10 i).toNat : Nat) : Int) = z 10 i by omega]
          exact s_ireturn dX9_name_66 rfl k9
        · refine s_aload_n dX9_name_47 rfl ?_
          refine s_getr dX9_name_48 fl_X9_22 kl_7 (by decide) rfl io_196 (z := 9) rfl (rf_7_9 hG4.1 io_196) (rk_7_9 io_196).1 ?_
          refine s_iload_n dX9_name_51 rfl ?_
          refine s_iaload dX9_name_52 (rk_7_9 io_196) (by omega) (by omega) ?_
          have k9 := k (by rw [if_neg (by omega)]; omega) _ M fm th
          unfold zname at k9
          rw [if_neg (by omega)] at k9
          have lb := (mr_b M).2.2.2.2.1 i (by omega) (by omega)
          have hl : lq_ (z (30 + i)) (z 11 i).toNat := fun j a b => lb.2 j a (by omega)
          rw [M.2.2.2.2.2.1 i (by omega) (by omega)]
          refine s_goto (tgt := 62) dX9_name_53 (by decide) ?_
          refine s_iload_n dX9_name_62 rfl ?_
          refine s_callS (d' := d - 1) (bc' := 0) (bs' := 0) (as := [_, _]) dX9_name_63 sf_X9_297 (dd_ (by omega) (by decide)) ⟨Nat.zero_le _, Nat.zero_le _⟩ rfl rfl (Nat.le_of_ble_eq_true rfl) ?_
          refine c_X9_letter (by omega) (by omega) hl ht ?_
          rw [show (((z 11 i).toNat : Nat) : Int) = z 11 i by omega]
          exact s_ireturn dX9_name_66 rfl k9
      · exact absurd c8 (by decide)
set_option maxRecDepth 100000 in
set_option maxHeartbeats 4000000 in
theorem c_X9_thing {t v : Int} (hd : 3 ≤ d) (M : MR_ h z) (ht : inI t) (hv : inI v) (k : 0 ≤ t → t < z 0 0 → 0 ≤ v → v ≤ 4 → MK_ Q h z 0 (zthing z t v)) (k1 : ¬ (0 ≤ t ∧ t < z 0 0) → MK_ Q h z 1 0) (k2 : 0 ≤ t → t < z 0 0 → ¬ (0 ≤ v ∧ v ≤ 4) → MK_ Q h z 2 0) : Cl_ yX9_thing MX9_thing d bc bs [(2, 196), (0, t), (0, v)] nN h Q := by
  refine s_enter pn_X9 rfl (Nat.le_of_ble_eq_true rfl) (L := [(2, _), (0, _), (0, _), (9, 0)]) rfl ?_
  have hG := M.1
  have I := mr_i M
  have hT := I.2.1
  have hP := I.2.2.1
  have hN := I.2.2.2.1
  have nn := M.2.1
  refine s_aload_n dX9_thing_0 rfl ?_
  refine s_aload_n dX9_thing_1 rfl ?_
  refine s_iload_n dX9_thing_2 rfl ?_
  refine s_callV (d' := d - 1) (bc' := 0) (bs' := 0) (as := [_]) dX9_thing_3 vf_X9_294 (dd_ (by omega) (by decide)) ⟨Nat.zero_le _, Nat.zero_le _⟩ rfl rfl (Nat.le_of_ble_eq_true rfl) kl_7 rfl io_196 ?_
  refine c_X9_isThing (by omega) M ht ?_
  refine s_if_ne (tgt := 13) dX9_thing_6 (by decide) (by first | exact hG.2 _ _ | exact b01_in _ | assumption | exact ⟨by omega, by omega⟩) (fun c1 => ?_) (fun c1 => ?_)
  · have c1 := b01_n.mp c1
    refine s_iload_n dX9_thing_13 rfl ?_
    refine s_i2l dX9_thing_14 (by first | exact hG.2 _ _ | exact b01_in _ | assumption | exact ⟨by omega, by omega⟩) ?_
    refine s_lconstz (z := 0) dX9_thing_15 rfl ?_
    refine s_ldc2 dX9_thing_16 kc_X9_303 ?_
    refine s_callS (d' := d - 1) (bc' := 0) (bs' := 0) (as := [_, _, _]) dX9_thing_19 sf_X9_143 (dd_ (by omega) (by decide)) ⟨Nat.zero_le _, Nat.zero_le _⟩ rfl rfl (Nat.le_of_ble_eq_true rfl) ?_
    refine c_X9_isIn (inI_L (by assumption)) ⟨by omega, by omega⟩ ⟨by omega, by omega⟩ ?_
    refine s_if_eq (tgt := 29) dX9_thing_22 (by decide) (by first | exact hG.2 _ _ | exact b01_in _ | assumption | exact ⟨by omega, by omega⟩) (fun c2 => ?_) (fun c2 => ?_)
    · have c2 := b01_0.mp c2
      refine s_iconst dX9_thing_29 ?_
      refine s_putiG 0 dX9_thing_30 fl_X9_98 kl_7 (by decide) rfl rfl io_196 (z := 0) rfl (by decide +kernel) hG (by first | exact hG.2 _ _ | exact b01_in _ | assumption | exact ⟨by omega, by omega⟩) (fun hG1 => ?_)
      obtain ⟨M, fm, th⟩ := mr_th M hG1
      refine s_aload_n dX9_thing_33 rfl ?_
      refine s_geti dX9_thing_34 fl_X9_98 kl_7 (by decide) rfl io_196 (z := 0) rfl ?_
      rw [th]
      refine s_if_le (tgt := 42) dX9_thing_37 (by decide) (by first | exact hG1.2 _ _ | exact hG.2 _ _ | exact b01_in _ | assumption | exact ⟨by omega, by omega⟩) (fun c3 => ?_) (fun c3 => ?_)
      · exact absurd c3 (by decide)
      · refine s_iconst dX9_thing_40 ?_
        exact s_ireturn dX9_thing_41 rfl (k2 (by omega) (by omega) (by omega) _ M fm th)
    · have c2 := b01_n.mp c2
      refine s_iconst dX9_thing_25 ?_
      refine s_goto (tgt := 30) dX9_thing_26 (by decide) ?_
      refine s_putiG 0 dX9_thing_30 fl_X9_98 kl_7 (by decide) rfl rfl io_196 (z := 0) rfl (by decide +kernel) hG (by first | exact hG.2 _ _ | exact b01_in _ | assumption | exact ⟨by omega, by omega⟩) (fun hG2 => ?_)
      obtain ⟨M, fm, th⟩ := mr_th M hG2
      refine s_aload_n dX9_thing_33 rfl ?_
      refine s_geti dX9_thing_34 fl_X9_98 kl_7 (by decide) rfl io_196 (z := 0) rfl ?_
      rw [th]
      refine s_if_le (tgt := 42) dX9_thing_37 (by decide) (by first | exact hG2.2 _ _ | exact hG.2 _ _ | exact b01_in _ | assumption | exact ⟨by omega, by omega⟩) (fun c4 => ?_) (fun c4 => ?_)
      · refine s_aload_n dX9_thing_42 rfl ?_
        refine s_iload_n dX9_thing_43 rfl ?_
        refine s_iconst dX9_thing_44 ?_
        refine s_callV (d' := d - 1) (bc' := 0) (bs' := 0) (as := [_, _]) dX9_thing_45 vf_X9_300 (dd_ (by omega) (by decide)) ⟨Nat.zero_le _, Nat.zero_le _⟩ rfl rfl (Nat.le_of_ble_eq_true rfl) kl_7 rfl io_196 ?_
        have b8 := I.1.1 t (by omega) (by omega)
        have k9 := k (by omega) (by omega) (by omega) (by omega) _ M fm th
        unfold zthing at k9
        refine c_X9_ofThing M (by omega) (by omega) (by omega) (by omega) (j := 8 + t) (by omega) ?_
        refine s_istore_n dX9_thing_48 (by decide) rfl (L' := [_, _, _, _]) rfl ?_
        refine s_iload_n dX9_thing_49 rfl ?_
        rcases (by omega : v = 0 ∨ v = 1 ∨ v = 2 ∨ v = 3 ∨ (v < 0 ∨ 3 < v)) with rfl | rfl | rfl | rfl | c5
        · refine s_tabIn (tgt := 80) dX9_thing_50 (by first | exact hG2.2 _ _ | exact hG.2 _ _ | exact b01_in _ | assumption | exact ⟨by omega, by omega⟩) (by decide) (by decide) rfl (by decide) ?_
          refine s_aload_n dX9_thing_80 rfl ?_
          refine s_iload_n dX9_thing_81 rfl ?_
          refine s_iconst dX9_thing_82 ?_
          refine s_callV (d' := d - 1) (bc' := 0) (bs' := 0) (as := [_, _]) dX9_thing_83 vf_X9_300 (dd_ (by omega) (by decide)) ⟨Nat.zero_le _, Nat.zero_le _⟩ rfl rfl (Nat.le_of_ble_eq_true rfl) kl_7 rfl io_196 ?_
          refine c_X9_ofThing M (by omega) (by omega) (by omega) (by omega) (j := t) (by omega) ?_
          refine s_ireturn dX9_thing_86 rfl ?_
          first
            | (simp at k9; simpa using k9)
            | (simp at k9; rw [if_pos (by omega)] at k9; simpa using k9)
            | (simp at k9; rw [if_neg (by omega)] at k9; simpa using k9)
            | (rw [if_neg (by omega), if_neg (by omega), if_neg (by omega), if_neg (by omega)] at k9; exact k9)
        · refine s_tabIn (tgt := 87) dX9_thing_50 (by first | exact hG2.2 _ _ | exact hG.2 _ _ | exact b01_in _ | assumption | exact ⟨by omega, by omega⟩) (by decide) (by decide) rfl (by decide) ?_
          refine s_iload_n dX9_thing_87 rfl ?_
          refine s_ireturn dX9_thing_88 rfl ?_
          first
            | (simp at k9; simpa using k9)
            | (simp at k9; rw [if_pos (by omega)] at k9; simpa using k9)
            | (simp at k9; rw [if_neg (by omega)] at k9; simpa using k9)
            | (rw [if_neg (by omega), if_neg (by omega), if_neg (by omega), if_neg (by omega)] at k9; exact k9)
        · refine s_tabIn (tgt := 89) dX9_thing_50 (by first | exact hG2.2 _ _ | exact hG.2 _ _ | exact b01_in _ | assumption | exact ⟨by omega, by omega⟩) (by decide) (by decide) rfl (by decide) ?_
          refine s_iload_n dX9_thing_89 rfl ?_
          refine s_iconst dX9_thing_90 ?_
          refine s_icmp_ne (tgt := 103) dX9_thing_91 (by decide) (by first | exact hG2.2 _ _ | exact hG.2 _ _ | exact b01_in _ | assumption | exact ⟨by omega, by omega⟩) (by first | exact hG2.2 _ _ | exact hG.2 _ _ | exact b01_in _ | assumption | exact ⟨by omega, by omega⟩) (fun c6 => ?_) (fun c6 => ?_)
          · refine s_iconst dX9_thing_103 ?_
            refine s_ireturn dX9_thing_104 rfl ?_
            first
              | (simp at k9; simpa using k9)
              | (simp at k9; rw [if_pos (by omega)] at k9; simpa using k9)
              | (simp at k9; rw [if_neg (by omega)] at k9; simpa using k9)
              | (rw [if_neg (by omega), if_neg (by omega), if_neg (by omega), if_neg (by omega)] at k9; exact k9)
          · refine s_aload_n dX9_thing_94 rfl ?_
            refine s_iload_n dX9_thing_95 rfl ?_
            refine s_iconst dX9_thing_96 ?_
            refine s_callV (d' := d - 1) (bc' := 0) (bs' := 0) (as := [_, _]) dX9_thing_97 vf_X9_300 (dd_ (by omega) (by decide)) ⟨Nat.zero_le _, Nat.zero_le _⟩ rfl rfl (Nat.le_of_ble_eq_true rfl) kl_7 rfl io_196 ?_
            refine c_X9_ofThing M (by omega) (by omega) (by omega) (by omega) (j := 16 + t) (by omega) ?_
            refine s_goto (tgt := 104) dX9_thing_100 (by decide) ?_
            refine s_ireturn dX9_thing_104 rfl ?_
            first
              | (simp at k9; simpa using k9)
              | (simp at k9; rw [if_pos (by omega)] at k9; simpa using k9)
              | (simp at k9; rw [if_neg (by omega)] at k9; simpa using k9)
              | (rw [if_neg (by omega), if_neg (by omega), if_neg (by omega), if_neg (by omega)] at k9; exact k9)
        · refine s_tabIn (tgt := 105) dX9_thing_50 (by first | exact hG2.2 _ _ | exact hG.2 _ _ | exact b01_in _ | assumption | exact ⟨by omega, by omega⟩) (by decide) (by decide) rfl (by decide) ?_
          refine s_iload_n dX9_thing_105 rfl ?_
          refine s_if_ne (tgt := 113) dX9_thing_106 (by decide) (by first | exact hG2.2 _ _ | exact hG.2 _ _ | exact b01_in _ | assumption | exact ⟨by omega, by omega⟩) (fun c7 => ?_) (fun c7 => ?_)
          · refine s_aload_n dX9_thing_113 rfl ?_
            refine s_iload_n dX9_thing_114 rfl ?_
            refine s_iconst dX9_thing_115 ?_
            refine s_callV (d' := d - 1) (bc' := 0) (bs' := 0) (as := [_, _]) dX9_thing_116 vf_X9_300 (dd_ (by omega) (by decide)) ⟨Nat.zero_le _, Nat.zero_le _⟩ rfl rfl (Nat.le_of_ble_eq_true rfl) kl_7 rfl io_196 ?_
            refine c_X9_ofThing M (by omega) (by omega) (by omega) (by omega) (j := 24 + t) (by omega) ?_
            have eb : zbr z t = z 1 (24 + t) := by unfold zbr; exact if_neg (by omega)
            rw [← eb]
            refine s_ireturn dX9_thing_119 rfl ?_
            first
              | (simp at k9; simpa using k9)
              | (simp at k9; rw [if_pos (by omega)] at k9; simpa using k9)
              | (simp at k9; rw [if_neg (by omega)] at k9; simpa using k9)
              | (rw [if_neg (by omega), if_neg (by omega), if_neg (by omega), if_neg (by omega)] at k9; exact k9)
          · refine s_iconst dX9_thing_109 ?_
            refine s_goto (tgt := 119) dX9_thing_110 (by decide) ?_
            refine s_ireturn dX9_thing_119 rfl ?_
            first
              | (simp at k9; simpa using k9)
              | (simp at k9; rw [if_pos (by omega)] at k9; simpa using k9)
              | (simp at k9; rw [if_neg (by omega)] at k9; simpa using k9)
              | (rw [if_neg (by omega), if_neg (by omega), if_neg (by omega), if_neg (by omega)] at k9; exact k9)
        · refine s_tabOut (tgt := 120) dX9_thing_50 (by first | exact hG2.2 _ _ | exact hG.2 _ _ | exact b01_in _ | assumption | exact ⟨by omega, by omega⟩) c5 (by decide) ?_
          refine s_aload_n dX9_thing_120 rfl ?_
          refine s_iload_n dX9_thing_121 rfl ?_
          refine s_callV (d' := d - 1) (bc' := 0) (bs' := 0) (as := [_]) dX9_thing_122 vf_X9_305 (dd_ (by omega) (by decide)) ⟨Nat.zero_le _, Nat.zero_le _⟩ rfl rfl (Nat.le_of_ble_eq_true rfl) kl_7 rfl io_196 ?_
          refine c_X9_bringsOf (by omega) M (by omega) (by omega) ?_
          refine s_ireturn dX9_thing_125 rfl ?_
          first
            | (simp at k9; simpa using k9)
            | (simp at k9; rw [if_pos (by omega)] at k9; simpa using k9)
            | (simp at k9; rw [if_neg (by omega)] at k9; simpa using k9)
            | (rw [if_neg (by omega), if_neg (by omega), if_neg (by omega), if_neg (by omega)] at k9; exact k9)
      · exact absurd c4 (by decide)
  · have c1 := b01_0.mp c1
    refine s_iconst dX9_thing_9 ?_
    refine s_goto (tgt := 30) dX9_thing_10 (by decide) ?_
    refine s_putiG 0 dX9_thing_30 fl_X9_98 kl_7 (by decide) rfl rfl io_196 (z := 0) rfl (by decide +kernel) hG (by first | exact hG.2 _ _ | exact b01_in _ | assumption | exact ⟨by omega, by omega⟩) (fun hG3 => ?_)
    obtain ⟨M, fm, th⟩ := mr_th M hG3
    refine s_aload_n dX9_thing_33 rfl ?_
    refine s_geti dX9_thing_34 fl_X9_98 kl_7 (by decide) rfl io_196 (z := 0) rfl ?_
    rw [th]
    refine s_if_le (tgt := 42) dX9_thing_37 (by decide) (by first | exact hG3.2 _ _ | exact hG.2 _ _ | exact b01_in _ | assumption | exact ⟨by omega, by omega⟩) (fun c8 => ?_) (fun c8 => ?_)
    · exact absurd c8 (by decide)
    · refine s_iconst dX9_thing_40 ?_
      exact s_ireturn dX9_thing_41 rfl (k1 (by omega) _ M fm th)
set_option maxRecDepth 100000 in
set_option maxHeartbeats 4000000 in
theorem c_X9_person {p v : Int} (hd : 4 ≤ d) (M : MR_ h z) (hp : inI p) (hv : inI v) (k : 0 ≤ p → p < z 0 1 → 0 ≤ v → v ≤ 5 → MK_ Q h z 0 (zperson z p v)) (k1 : ¬ (0 ≤ p ∧ p < z 0 1) → MK_ Q h z 1 0) (k2 : 0 ≤ p → p < z 0 1 → ¬ (0 ≤ v ∧ v ≤ 5) → MK_ Q h z 2 0) : Cl_ yX9_person MX9_person d bc bs [(2, 196), (0, p), (0, v)] nN h Q := by
  refine s_enter pn_X9 rfl (Nat.le_of_ble_eq_true rfl) (L := [(2, _), (0, _), (0, _)]) rfl ?_
  have hG := M.1
  have I := mr_i M
  have hT := I.2.1
  have hP := I.2.2.1
  have hN := I.2.2.2.1
  have nn := M.2.1
  refine s_aload_n dX9_person_0 rfl ?_
  refine s_aload_n dX9_person_1 rfl ?_
  refine s_iload_n dX9_person_2 rfl ?_
  refine s_callV (d' := d - 1) (bc' := 0) (bs' := 0) (as := [_]) dX9_person_3 vf_X9_290 (dd_ (by omega) (by decide)) ⟨Nat.zero_le _, Nat.zero_le _⟩ rfl rfl (Nat.le_of_ble_eq_true rfl) kl_7 rfl io_196 ?_
  refine c_X9_isPerson (by omega) M hp ?_
  refine s_if_ne (tgt := 13) dX9_person_6 (by decide) (by first | exact hG.2 _ _ | exact b01_in _ | assumption | exact ⟨by omega, by omega⟩) (fun c1 => ?_) (fun c1 => ?_)
  · have c1 := b01_n.mp c1
    refine s_iload_n dX9_person_13 rfl ?_
    refine s_i2l dX9_person_14 (by first | exact hG.2 _ _ | exact b01_in _ | assumption | exact ⟨by omega, by omega⟩) ?_
    refine s_lconstz (z := 0) dX9_person_15 rfl ?_
    refine s_ldc2 dX9_person_16 kc_X9_141 ?_
    refine s_callS (d' := d - 1) (bc' := 0) (bs' := 0) (as := [_, _, _]) dX9_person_19 sf_X9_143 (dd_ (by omega) (by decide)) ⟨Nat.zero_le _, Nat.zero_le _⟩ rfl rfl (Nat.le_of_ble_eq_true rfl) ?_
    refine c_X9_isIn (inI_L (by assumption)) ⟨by omega, by omega⟩ ⟨by omega, by omega⟩ ?_
    refine s_if_eq (tgt := 29) dX9_person_22 (by decide) (by first | exact hG.2 _ _ | exact b01_in _ | assumption | exact ⟨by omega, by omega⟩) (fun c2 => ?_) (fun c2 => ?_)
    · have c2 := b01_0.mp c2
      refine s_iconst dX9_person_29 ?_
      refine s_putiG 0 dX9_person_30 fl_X9_98 kl_7 (by decide) rfl rfl io_196 (z := 0) rfl (by decide +kernel) hG (by first | exact hG.2 _ _ | exact b01_in _ | assumption | exact ⟨by omega, by omega⟩) (fun hG1 => ?_)
      obtain ⟨M, fm, th⟩ := mr_th M hG1
      refine s_aload_n dX9_person_33 rfl ?_
      refine s_geti dX9_person_34 fl_X9_98 kl_7 (by decide) rfl io_196 (z := 0) rfl ?_
      rw [th]
      refine s_if_le (tgt := 42) dX9_person_37 (by decide) (by first | exact hG1.2 _ _ | exact hG.2 _ _ | exact b01_in _ | assumption | exact ⟨by omega, by omega⟩) (fun c3 => ?_) (fun c3 => ?_)
      · exact absurd c3 (by decide)
      · refine s_iconst dX9_person_40 ?_
        exact s_ireturn dX9_person_41 rfl (k2 (by omega) (by omega) (by omega) _ M fm th)
    · have c2 := b01_n.mp c2
      refine s_iconst dX9_person_25 ?_
      refine s_goto (tgt := 30) dX9_person_26 (by decide) ?_
      refine s_putiG 0 dX9_person_30 fl_X9_98 kl_7 (by decide) rfl rfl io_196 (z := 0) rfl (by decide +kernel) hG (by first | exact hG.2 _ _ | exact b01_in _ | assumption | exact ⟨by omega, by omega⟩) (fun hG2 => ?_)
      obtain ⟨M, fm, th⟩ := mr_th M hG2
      refine s_aload_n dX9_person_33 rfl ?_
      refine s_geti dX9_person_34 fl_X9_98 kl_7 (by decide) rfl io_196 (z := 0) rfl ?_
      rw [th]
      refine s_if_le (tgt := 42) dX9_person_37 (by decide) (by first | exact hG2.2 _ _ | exact hG.2 _ _ | exact b01_in _ | assumption | exact ⟨by omega, by omega⟩) (fun c4 => ?_) (fun c4 => ?_)
      · refine s_aload_n dX9_person_42 rfl ?_
        refine s_callV (d' := d - 1) (bc' := 0) (bs' := 0) (as := []) dX9_person_43 vf_X9_311 (dd_ (by omega) (by decide)) ⟨Nat.zero_le _, Nat.zero_le _⟩ rfl rfl (Nat.le_of_ble_eq_true rfl) kl_7 rfl io_196 ?_
        refine c_X9_laysStocks (by omega) M (fun hhG3 ghG3 fhG3 lhG3 => ?_)
        have hG3 := ghG3
        have M := sc_M M ghG3 (sc_16 fhG3)
        have fm := fm.tr (sc_fm (sc_16 fhG3))
        have th := (sc_0 (sc_16 fhG3)).trans th
        have ll := lhG3 p (by omega) (by omega)
        have k9 := k (by omega) (by omega) (by omega) (by omega) _ M fm th
        unfold zperson at k9
        have c9 := mr_c M p (by omega) (by omega)
        have w9 := I.2.2.2.2.1 p (by omega) (by omega)
        refine s_iload_n dX9_person_46 rfl ?_
        rcases (by omega : v = 0 ∨ v = 1 ∨ v = 2 ∨ v = 3 ∨ v = 4 ∨ (v < 0 ∨ 4 < v)) with rfl | rfl | rfl | rfl | rfl | c5
        · refine s_tabIn (tgt := 80) dX9_person_47 (by first | exact hG3.2 _ _ | exact hG.2 _ _ | exact b01_in _ | assumption | exact ⟨by omega, by omega⟩) (by decide) (by decide) rfl (by decide) ?_
          refine s_aload_n dX9_person_80 rfl ?_
          refine s_getr dX9_person_81 fl_X9_25 kl_7 (by decide) rfl io_196 (z := 10) rfl (rf_7_10 hG3.1 io_196) (rk_7_10 io_196).1 ?_
          refine s_iload_n dX9_person_84 rfl ?_
          refine s_iaload dX9_person_85 (rk_7_10 io_196) (by omega) (by omega) ?_
          rw [c9.1]
          simp at k9
          exact s_ireturn dX9_person_86 rfl k9
        · refine s_tabIn (tgt := 87) dX9_person_47 (by first | exact hG3.2 _ _ | exact hG.2 _ _ | exact b01_in _ | assumption | exact ⟨by omega, by omega⟩) (by decide) (by decide) rfl (by decide) ?_
          refine s_aload_n dX9_person_87 rfl ?_
          refine s_getr dX9_person_88 fl_X9_28 kl_7 (by decide) rfl io_196 (z := 11) rfl (rf_7_11 hG3.1 io_196) (rk_7_11 io_196).1 ?_
          refine s_iload_n dX9_person_91 rfl ?_
          refine s_baload2 dX9_person_92 (rk_7_11 io_196) (by omega) (by omega) ?_
          refine s_if_eq (tgt := 100) dX9_person_93 (by decide) (by first | exact hG3.2 _ _ | exact hG.2 _ _ | exact b01_in _ | assumption | exact ⟨by omega, by omega⟩) (fun c6 => ?_) (fun c6 => ?_)
          · refine s_iconst dX9_person_100 ?_
            refine s_ireturn dX9_person_101 rfl ?_
            simp at k9
            first
              | (rw [if_pos (by omega)] at k9; exact k9)
              | (rw [if_neg (by omega)] at k9; exact k9)
          · refine s_iconst dX9_person_96 ?_
            refine s_goto (tgt := 101) dX9_person_97 (by decide) ?_
            refine s_ireturn dX9_person_101 rfl ?_
            simp at k9
            first
              | (rw [if_pos (by omega)] at k9; exact k9)
              | (rw [if_neg (by omega)] at k9; exact k9)
        · refine s_tabIn (tgt := 102) dX9_person_47 (by first | exact hG3.2 _ _ | exact hG.2 _ _ | exact b01_in _ | assumption | exact ⟨by omega, by omega⟩) (by decide) (by decide) rfl (by decide) ?_
          refine s_aload_n dX9_person_102 rfl ?_
          refine s_iload_n dX9_person_103 rfl ?_
          refine s_callV (d' := d - 1) (bc' := 0) (bs' := 0) (as := [_]) dX9_person_104 vf_X9_314 (dd_ (by omega) (by decide)) ⟨Nat.zero_le _, Nat.zero_le _⟩ rfl rfl (Nat.le_of_ble_eq_true rfl) kl_7 rfl io_196 ?_
          refine c_X9_isKin M (by omega) (by omega) ?_
          have kb := zkn_01 (z := z) p
          refine s_if_eq (tgt := 114) dX9_person_107 (by decide) (by first | exact hG3.2 _ _ | exact hG.2 _ _ | exact b01_in _ | assumption | exact ⟨by omega, by omega⟩) (fun c7 => ?_) (fun c7 => ?_)
          · refine s_iconst dX9_person_114 ?_
            refine s_ireturn dX9_person_115 rfl ?_
            simp at k9
            first
              | (rw [if_pos (by omega)] at k9; exact k9)
              | (rw [if_neg (by omega)] at k9; exact k9)
          · refine s_iconst dX9_person_110 ?_
            refine s_goto (tgt := 115) dX9_person_111 (by decide) ?_
            refine s_ireturn dX9_person_115 rfl ?_
            simp at k9
            first
              | (rw [if_pos (by omega)] at k9; exact k9)
              | (rw [if_neg (by omega)] at k9; exact k9)
        · refine s_tabIn (tgt := 116) dX9_person_47 (by first | exact hG3.2 _ _ | exact hG.2 _ _ | exact b01_in _ | assumption | exact ⟨by omega, by omega⟩) (by decide) (by decide) rfl (by decide) ?_
          refine s_aload_n dX9_person_116 rfl ?_
          refine s_iload_n dX9_person_117 rfl ?_
          refine s_callV (d' := d - 1) (bc' := 0) (bs' := 0) (as := [_]) dX9_person_118 vf_X9_308 (dd_ (by omega) (by decide)) ⟨Nat.zero_le _, Nat.zero_le _⟩ rfl rfl (Nat.le_of_ble_eq_true rfl) kl_7 rfl io_196 ?_
          refine c_X9_isDead M (by omega) (by omega) ?_
          have ed : zdd z p = z 1 (32 + p) := rfl
          refine s_if_eq (tgt := 128) dX9_person_121 (by decide) (by first | exact hG3.2 _ _ | exact hG.2 _ _ | exact b01_in _ | assumption | exact ⟨by omega, by omega⟩) (fun c8 => ?_) (fun c8 => ?_)
          · have c8 := b01_0.mp c8
            refine s_iconst dX9_person_128 ?_
            refine s_ireturn dX9_person_129 rfl ?_
            simp at k9
            first
              | (rw [if_pos (by omega)] at k9; exact k9)
              | (rw [if_neg (by omega)] at k9; exact k9)
          · have c8 := b01_n.mp c8
            refine s_iconst dX9_person_124 ?_
            refine s_goto (tgt := 129) dX9_person_125 (by decide) ?_
            refine s_ireturn dX9_person_129 rfl ?_
            simp at k9
            first
              | (rw [if_pos (by omega)] at k9; exact k9)
              | (rw [if_neg (by omega)] at k9; exact k9)
        · refine s_tabIn (tgt := 130) dX9_person_47 (by first | exact hG3.2 _ _ | exact hG.2 _ _ | exact b01_in _ | assumption | exact ⟨by omega, by omega⟩) (by decide) (by decide) rfl (by decide) ?_
          refine s_aload_n dX9_person_130 rfl ?_
          refine s_getr dX9_person_131 fl_X9_61 kl_7 (by decide) rfl io_196 (z := 28) rfl (rf_7_28 hG3.1 io_196) (rk_7_28 io_196).1 ?_
          refine s_iload_n dX9_person_134 rfl ?_
          refine s_iaload dX9_person_135 (rk_7_28 io_196) (by omega) (by omega) ?_
          refine s_if_ne (tgt := 143) dX9_person_136 (by decide) (by first | exact hG3.2 _ _ | exact hG.2 _ _ | exact b01_in _ | assumption | exact ⟨by omega, by omega⟩) (fun c9 => ?_) (fun c9 => ?_)
          · refine s_iconst dX9_person_143 ?_
            refine s_ireturn dX9_person_144 rfl ?_
            simp at k9
            first
              | (rw [if_pos (by omega)] at k9; exact k9)
              | (rw [if_neg (by omega)] at k9; exact k9)
          · refine s_iconst dX9_person_139 ?_
            refine s_goto (tgt := 144) dX9_person_140 (by decide) ?_
            refine s_ireturn dX9_person_144 rfl ?_
            simp at k9
            first
              | (rw [if_pos (by omega)] at k9; exact k9)
              | (rw [if_neg (by omega)] at k9; exact k9)
        · refine s_tabOut (tgt := 145) dX9_person_47 (by first | exact hG3.2 _ _ | exact hG.2 _ _ | exact b01_in _ | assumption | exact ⟨by omega, by omega⟩) c5 (by decide) ?_
          refine s_aload_n dX9_person_145 rfl ?_
          refine s_getr dX9_person_146 fl_X9_61 kl_7 (by decide) rfl io_196 (z := 28) rfl (rf_7_28 hG3.1 io_196) (rk_7_28 io_196).1 ?_
          refine s_iload_n dX9_person_149 rfl ?_
          refine s_iaload dX9_person_150 (rk_7_28 io_196) (by omega) (by omega) ?_
          rw [ll]
          rw [if_neg (by omega), if_neg (by omega), if_neg (by omega), if_neg (by omega), if_neg (by omega)] at k9
          exact s_ireturn dX9_person_151 rfl k9
      · exact absurd c4 (by decide)
  · have c1 := b01_0.mp c1
    refine s_iconst dX9_person_9 ?_
    refine s_goto (tgt := 30) dX9_person_10 (by decide) ?_
    refine s_putiG 0 dX9_person_30 fl_X9_98 kl_7 (by decide) rfl rfl io_196 (z := 0) rfl (by decide +kernel) hG (by first | exact hG.2 _ _ | exact b01_in _ | assumption | exact ⟨by omega, by omega⟩) (fun hG4 => ?_)
    obtain ⟨M, fm, th⟩ := mr_th M hG4
    refine s_aload_n dX9_person_33 rfl ?_
    refine s_geti dX9_person_34 fl_X9_98 kl_7 (by decide) rfl io_196 (z := 0) rfl ?_
    rw [th]
    refine s_if_le (tgt := 42) dX9_person_37 (by decide) (by first | exact hG4.2 _ _ | exact hG.2 _ _ | exact b01_in _ | assumption | exact ⟨by omega, by omega⟩) (fun c10 => ?_) (fun c10 => ?_)
    · exact absurd c10 (by decide)
    · refine s_iconst dX9_person_40 ?_
      exact s_ireturn dX9_person_41 rfl (k1 (by omega) _ M fm th)
set_option maxRecDepth 100000 in
set_option maxHeartbeats 4000000 in
theorem c_X9_gift {g v : Int} (hd : 5 ≤ d) (M : MR_ h z) (hg : inI g) (hv : inI v) (k : 0 ≤ g → g < z 0 2 → 0 ≤ v → v ≤ 6 → MK_ Q h z 0 (zgift z g v)) (k1 : ¬ (0 ≤ g ∧ g < z 0 2) → MK_ Q h z 1 0) (k2 : 0 ≤ g → g < z 0 2 → ¬ (0 ≤ v ∧ v ≤ 6) → MK_ Q h z 2 0) : Cl_ yX9_gift MX9_gift d bc bs [(2, 196), (0, g), (0, v)] nN h Q := by
  refine s_enter pn_X9 rfl (Nat.le_of_ble_eq_true rfl) (L := [(2, _), (0, _), (0, _)]) rfl ?_
  have hG := M.1
  have I := mr_i M
  have hT := I.2.1
  have hP := I.2.2.1
  have hN := I.2.2.2.1
  have nn := M.2.1
  refine s_aload_n dX9_gift_0 rfl ?_
  refine s_aload_n dX9_gift_1 rfl ?_
  refine s_iload_n dX9_gift_2 rfl ?_
  refine s_callV (d' := d - 1) (bc' := 0) (bs' := 0) (as := [_]) dX9_gift_3 vf_X9_319 (dd_ (by omega) (by decide)) ⟨Nat.zero_le _, Nat.zero_le _⟩ rfl rfl (Nat.le_of_ble_eq_true rfl) kl_7 rfl io_196 ?_
  refine c_X9_isGift (by omega) M hg ?_
  refine s_if_ne (tgt := 13) dX9_gift_6 (by decide) (by first | exact hG.2 _ _ | exact b01_in _ | assumption | exact ⟨by omega, by omega⟩) (fun c1 => ?_) (fun c1 => ?_)
  · have c1 := b01_n.mp c1
    refine s_iload_n dX9_gift_13 rfl ?_
    refine s_i2l dX9_gift_14 (by first | exact hG.2 _ _ | exact b01_in _ | assumption | exact ⟨by omega, by omega⟩) ?_
    refine s_lconstz (z := 0) dX9_gift_15 rfl ?_
    refine s_ldc2 dX9_gift_16 kc_X9_196 ?_
    refine s_callS (d' := d - 1) (bc' := 0) (bs' := 0) (as := [_, _, _]) dX9_gift_19 sf_X9_143 (dd_ (by omega) (by decide)) ⟨Nat.zero_le _, Nat.zero_le _⟩ rfl rfl (Nat.le_of_ble_eq_true rfl) ?_
    refine c_X9_isIn (inI_L (by assumption)) ⟨by omega, by omega⟩ ⟨by omega, by omega⟩ ?_
    refine s_if_eq (tgt := 29) dX9_gift_22 (by decide) (by first | exact hG.2 _ _ | exact b01_in _ | assumption | exact ⟨by omega, by omega⟩) (fun c2 => ?_) (fun c2 => ?_)
    · have c2 := b01_0.mp c2
      refine s_iconst dX9_gift_29 ?_
      refine s_putiG 0 dX9_gift_30 fl_X9_98 kl_7 (by decide) rfl rfl io_196 (z := 0) rfl (by decide +kernel) hG (by first | exact hG.2 _ _ | exact b01_in _ | assumption | exact ⟨by omega, by omega⟩) (fun hG1 => ?_)
      obtain ⟨M, fm, th⟩ := mr_th M hG1
      refine s_aload_n dX9_gift_33 rfl ?_
      refine s_geti dX9_gift_34 fl_X9_98 kl_7 (by decide) rfl io_196 (z := 0) rfl ?_
      rw [th]
      refine s_if_le (tgt := 42) dX9_gift_37 (by decide) (by first | exact hG1.2 _ _ | exact hG.2 _ _ | exact b01_in _ | assumption | exact ⟨by omega, by omega⟩) (fun c3 => ?_) (fun c3 => ?_)
      · exact absurd c3 (by decide)
      · refine s_iconst dX9_gift_40 ?_
        exact s_ireturn dX9_gift_41 rfl (k2 (by omega) (by omega) (by omega) _ M fm th)
    · have c2 := b01_n.mp c2
      refine s_iconst dX9_gift_25 ?_
      refine s_goto (tgt := 30) dX9_gift_26 (by decide) ?_
      refine s_putiG 0 dX9_gift_30 fl_X9_98 kl_7 (by decide) rfl rfl io_196 (z := 0) rfl (by decide +kernel) hG (by first | exact hG.2 _ _ | exact b01_in _ | assumption | exact ⟨by omega, by omega⟩) (fun hG2 => ?_)
      obtain ⟨M, fm, th⟩ := mr_th M hG2
      refine s_aload_n dX9_gift_33 rfl ?_
      refine s_geti dX9_gift_34 fl_X9_98 kl_7 (by decide) rfl io_196 (z := 0) rfl ?_
      rw [th]
      refine s_if_le (tgt := 42) dX9_gift_37 (by decide) (by first | exact hG2.2 _ _ | exact hG.2 _ _ | exact b01_in _ | assumption | exact ⟨by omega, by omega⟩) (fun c4 => ?_) (fun c4 => ?_)
      · refine s_iload_n dX9_gift_42 rfl ?_
        refine s_iconst dX9_gift_43 ?_
        refine s_icmp_ge (tgt := 56) dX9_gift_44 (by decide) (by first | exact hG2.2 _ _ | exact hG.2 _ _ | exact b01_in _ | assumption | exact ⟨by omega, by omega⟩) (by first | exact hG2.2 _ _ | exact hG.2 _ _ | exact b01_in _ | assumption | exact ⟨by omega, by omega⟩) (fun c5 => ?_) (fun c5 => ?_)
        · refine s_iload_n dX9_gift_56 rfl ?_
          refine s_iconst dX9_gift_57 ?_
          refine s_icmp_ne (tgt := 77) dX9_gift_58 (by decide) (by first | exact hG2.2 _ _ | exact hG.2 _ _ | exact b01_in _ | assumption | exact ⟨by omega, by omega⟩) (by first | exact hG2.2 _ _ | exact hG.2 _ _ | exact b01_in _ | assumption | exact ⟨by omega, by omega⟩) (fun c6 => ?_) (fun c6 => ?_)
          · refine s_aload_n dX9_gift_77 rfl ?_
            refine s_iload_n dX9_gift_78 rfl ?_
            refine s_callV (d' := d - 1) (bc' := 0) (bs' := 0) (as := [_]) dX9_gift_79 vf_X9_325 (dd_ (by omega) (by decide)) ⟨Nat.zero_le _, Nat.zero_le _⟩ rfl rfl (Nat.le_of_ble_eq_true rfl) kl_7 rfl io_196 ?_
            have k9 := k (by omega) (by omega) (by omega) (by omega) _ M fm th
            unfold zgift at k9
            refine c_X9_adeemed (by omega) M (by omega) (by omega) ?_
            refine s_ireturn dX9_gift_82 rfl ?_
            first
              | (rcases (by omega : v = 0 ∨ v = 1 ∨ v = 2 ∨ v = 3 ∨ v = 4) with e | e | e | e | e <;> subst e <;> simp at k9 ⊢ <;> exact k9)
              | (rw [if_neg (by omega), if_neg (by omega), if_neg (by omega), if_neg (by omega), if_neg (by omega), if_pos (by omega), if_pos (by omega)] at k9; exact k9)
              | (rw [if_neg (by omega), if_neg (by omega), if_neg (by omega), if_neg (by omega), if_neg (by omega), if_pos (by omega), if_neg (by omega)] at k9; exact k9)
              | (rw [if_neg (by omega), if_neg (by omega), if_neg (by omega), if_neg (by omega), if_neg (by omega), if_neg (by omega)] at k9; exact k9)
          · refine s_aload_n dX9_gift_61 rfl ?_
            refine s_iload_n dX9_gift_62 rfl ?_
            refine s_callV (d' := d - 1) (bc' := 0) (bs' := 0) (as := [_]) dX9_gift_63 vf_X9_322 (dd_ (by omega) (by decide)) ⟨Nat.zero_le _, Nat.zero_le _⟩ rfl rfl (Nat.le_of_ble_eq_true rfl) kl_7 rfl io_196 ?_
            refine c_X9_lapses (by omega) M (by omega) (by omega) (fun hhG3 ghG3 fhG3 => ?_)
            have hG3 := ghG3
            have M := sc_M M ghG3 (sc_16 fhG3)
            have fm := fm.tr (sc_fm (sc_16 fhG3))
            have th := (sc_0 (sc_16 fhG3)).trans th
            have k9 := k (by omega) (by omega) (by omega) (by omega) _ M fm th
            unfold zgift at k9
            have lb : inI (zlp z g) := by unfold zlp; exact b01_in _
            refine s_if_eq (tgt := 73) dX9_gift_66 (by decide) (by first | exact hG3.2 _ _ | exact hG.2 _ _ | exact b01_in _ | assumption | exact ⟨by omega, by omega⟩) (fun c7 => ?_) (fun c7 => ?_)
            · refine s_iconst dX9_gift_73 ?_
              refine s_goto (tgt := 82) dX9_gift_74 (by decide) ?_
              refine s_ireturn dX9_gift_82 rfl ?_
              first
                | (rcases (by omega : v = 0 ∨ v = 1 ∨ v = 2 ∨ v = 3 ∨ v = 4) with e | e | e | e | e <;> subst e <;> simp at k9 ⊢ <;> exact k9)
                | (rw [if_neg (by omega), if_neg (by omega), if_neg (by omega), if_neg (by omega), if_neg (by omega), if_pos (by omega), if_pos (by omega)] at k9; exact k9)
                | (rw [if_neg (by omega), if_neg (by omega), if_neg (by omega), if_neg (by omega), if_neg (by omega), if_pos (by omega), if_neg (by omega)] at k9; exact k9)
                | (rw [if_neg (by omega), if_neg (by omega), if_neg (by omega), if_neg (by omega), if_neg (by omega), if_neg (by omega)] at k9; exact k9)
            · refine s_iconst dX9_gift_69 ?_
              refine s_goto (tgt := 82) dX9_gift_70 (by decide) ?_
              refine s_ireturn dX9_gift_82 rfl ?_
              first
                | (rcases (by omega : v = 0 ∨ v = 1 ∨ v = 2 ∨ v = 3 ∨ v = 4) with e | e | e | e | e <;> subst e <;> simp at k9 ⊢ <;> exact k9)
                | (rw [if_neg (by omega), if_neg (by omega), if_neg (by omega), if_neg (by omega), if_neg (by omega), if_pos (by omega), if_pos (by omega)] at k9; exact k9)
                | (rw [if_neg (by omega), if_neg (by omega), if_neg (by omega), if_neg (by omega), if_neg (by omega), if_pos (by omega), if_neg (by omega)] at k9; exact k9)
                | (rw [if_neg (by omega), if_neg (by omega), if_neg (by omega), if_neg (by omega), if_neg (by omega), if_neg (by omega)] at k9; exact k9)
        · refine s_aload_n dX9_gift_47 rfl ?_
          refine s_iload_n dX9_gift_48 rfl ?_
          refine s_iload_n dX9_gift_49 rfl ?_
          refine s_callV (d' := d - 1) (bc' := 0) (bs' := 0) (as := [_, _]) dX9_gift_50 vf_X9_317 (dd_ (by omega) (by decide)) ⟨Nat.zero_le _, Nat.zero_le _⟩ rfl rfl (Nat.le_of_ble_eq_true rfl) kl_7 rfl io_196 ?_
          have k9 := k (by omega) (by omega) (by omega) (by omega) _ M fm th
          unfold zgift at k9
          refine c_X9_of M (by omega) (by omega) (by omega) (by omega) (j := 5 + v) rfl ?_
          refine s_goto (tgt := 82) dX9_gift_53 (by decide) ?_
          refine s_ireturn dX9_gift_82 rfl ?_
          first
            | (rcases (by omega : v = 0 ∨ v = 1 ∨ v = 2 ∨ v = 3 ∨ v = 4) with e | e | e | e | e <;> subst e <;> simp at k9 ⊢ <;> exact k9)
            | (rw [if_neg (by omega), if_neg (by omega), if_neg (by omega), if_neg (by omega), if_neg (by omega), if_pos (by omega), if_pos (by omega)] at k9; exact k9)
            | (rw [if_neg (by omega), if_neg (by omega), if_neg (by omega), if_neg (by omega), if_neg (by omega), if_pos (by omega), if_neg (by omega)] at k9; exact k9)
            | (rw [if_neg (by omega), if_neg (by omega), if_neg (by omega), if_neg (by omega), if_neg (by omega), if_neg (by omega)] at k9; exact k9)
      · exact absurd c4 (by decide)
  · have c1 := b01_0.mp c1
    refine s_iconst dX9_gift_9 ?_
    refine s_goto (tgt := 30) dX9_gift_10 (by decide) ?_
    refine s_putiG 0 dX9_gift_30 fl_X9_98 kl_7 (by decide) rfl rfl io_196 (z := 0) rfl (by decide +kernel) hG (by first | exact hG.2 _ _ | exact b01_in _ | assumption | exact ⟨by omega, by omega⟩) (fun hG4 => ?_)
    obtain ⟨M, fm, th⟩ := mr_th M hG4
    refine s_aload_n dX9_gift_33 rfl ?_
    refine s_geti dX9_gift_34 fl_X9_98 kl_7 (by decide) rfl io_196 (z := 0) rfl ?_
    rw [th]
    refine s_if_le (tgt := 42) dX9_gift_37 (by decide) (by first | exact hG4.2 _ _ | exact hG.2 _ _ | exact b01_in _ | assumption | exact ⟨by omega, by omega⟩) (fun c8 => ?_) (fun c8 => ?_)
    · exact absurd c8 (by decide)
    · refine s_iconst dX9_gift_40 ?_
      exact s_ireturn dX9_gift_41 rfl (k1 (by omega) _ M fm th)
end X9C
