/-! the reference: what would be, were it otherwise -/
/-- the facts are as they were -/
theorem mr_bk {h h' z : PH} (M : MR_ h z) (hG : G h') (f : ∀ x k : Int, pc_ x k → ¬ x = 196 + 1 → h' x k = h x k) (fw : ∀ k : Int, 0 ≤ k → k < 61 → h' (196 + 1) k = h (196 + 1) k) : MR_ h' z := by
  obtain ⟨-, ⟨a1, a2, a3⟩, a4, ⟨a5, a6⟩, a7, a8, a9, b1, ⟨b2, b3⟩, b4, ⟨b5, b6⟩, b7, b8⟩ := M
  have F : ∀ x k : Int, (x = 196 + 1 ∨ (196 + 3 ≤ x ∧ x ≤ 196 + 9) ∨ x = 196 + 27 ∨ (x = 196 ∧ ((4 ≤ k ∧ k ≤ 7) ∨ k = 14 ∨ k = 17 ∨ k = 44))) → ¬ x = 196 + 1 → h' x k = h x k := f
  refine ⟨hG, ⟨by rw [F _ _ (by omega) (by omega)]; exact a1, by rw [F _ _ (by omega) (by omega)]; exact a2, by rw [F _ _ (by omega) (by omega)]; exact a3⟩, fun k p q => by rw [fw k p q]; exact a4 k p q, ⟨by rw [F _ _ (by omega) (by omega)]; exact a5, fun j k p q r s => by rw [F _ _ (by omega) (by omega)]; exact a6 j k p q r s⟩, fun t p q => by rw [F _ _ (by omega) (by omega)]; exact a7 t p q, fun t p q => by rw [F _ _ (by omega) (by omega)]; exact a8 t p q, fun p a b => by rw [F _ _ (by omega) (by omega), F _ _ (by omega) (by omega)]; exact a9 p a b, fun g v p q r s => by rw [F _ _ (by omega) (by omega)]; exact b1 g v p q r s, ⟨by rw [F _ _ (by omega) (by omega)]; exact b2, fun k p q => by rw [F _ _ (by omega) (by omega)]; exact b3 k p q⟩, by rw [F _ _ (by omega) (by omega)]; exact b4, ⟨by rw [F _ _ (by omega) (by omega)]; exact b5, fun k p q => by rw [F _ _ (by omega) (by omega)]; exact b6 k p q⟩, b7, b8⟩
/-- put aside, changed, reckoned, put back -/
theorem sup_end {h h1 h2 hT hB z : PH} (M : MR_ h z) (f1 : ∀ x y : Int, ¬ x = 196 + 2 → h1 x y = h x y) (e1 : ∀ j : Int, 0 ≤ j → j < 61 → h1 (196 + 2) j = h (196 + 1) j) (f2 : ∀ x y : Int, ¬ x = 196 + 1 → h2 x y = h1 x y) (fT : SC_ h2 hT) (gB : G hB) (fB : ∀ x y : Int, ¬ x = 196 + 1 → hB x y = hT x y) (eB : ∀ j : Int, 0 ≤ j → j < 61 → hB (196 + 1) j = hT (196 + 2) j) : MR_ hB z ∧ FM h hB ∧ hB 196 0 = h 196 0 := by
  refine ⟨mr_bk M gB (fun x k p q => ?_) (fun k k0 k1 => ?_), fun x y hx => ?_, ?_⟩
  · unfold pc_ at p
    rw [fB x k q, fT x k (by omega) (by omega), f2 x k q, f1 x k (by omega)]
  · rw [eB k k0 k1, fT _ _ (by omega) (by omega), f2 _ _ (by omega), e1 k k0 k1]
  · rw [fB _ _ (by omega), fT _ _ (by omega) (by omega), f2 _ _ (by omega), f1 _ _ (by omega)]
  · rw [fB _ _ (by omega), fT _ _ (by omega) (by omega), f2 _ _ (by omega), f1 _ _ (by omega)]
section X9M
variable {d bc bs : Nat} {Q : PQ} {h h0 z : PH}
set_option maxRecDepth 100000 in
set_option maxHeartbeats 4000000 in
theorem lp_X9_begins  (k : ∀ h : PH, G h → (∀ x y : Int, ¬ x = 196 + 2 → h x y = h0 x y) → (∀ j : Int, 0 ≤ j → j < 61 → h (196 + 2) j = h0 (196 + 1) j) → Q.1 none nN h) : ∀ (m : Nat) (i : Int) (h : PH), (0 ≤ i) → (i + m = 61) → (G h) → (∀ x y : Int, ¬ x = 196 + 2 → h x y = h0 x y) → (∀ j : Int, 0 ≤ j → j < i → h (196 + 2) j = h0 (196 + 1) j) → S_ MX9_begins d bc bs Q 2 [(2, 196), (0, i)] [] nN h := by
  intro m
  induction m with
  | zero =>
    intro i h i0 im hG fr H
    refine s_iload_n dX9_begins_2 rfl ?_
    refine s_bipush dX9_begins_3 (by decide) ?_
    refine s_icmp_ge (tgt := 26) dX9_begins_5 (by decide) (by first | exact hG.2 _ _ | exact b01_in _ | assumption | exact ⟨by omega, by omega⟩) (by first | exact hG.2 _ _ | exact b01_in _ | assumption | exact ⟨by omega, by omega⟩) (fun c1 => ?_) (fun c1 => ?_)
    · exact s_return dX9_begins_26 rfl (k h hG fr (fun j j0 j1 => H j j0 (by omega)))
    · exact absurd c1 (by omega)
  | succ m ih =>
    intro i h i0 im hG fr H
    refine s_iload_n dX9_begins_2 rfl ?_
    refine s_bipush dX9_begins_3 (by decide) ?_
    refine s_icmp_ge (tgt := 26) dX9_begins_5 (by decide) (by first | exact hG.2 _ _ | exact b01_in _ | assumption | exact ⟨by omega, by omega⟩) (by first | exact hG.2 _ _ | exact b01_in _ | assumption | exact ⟨by omega, by omega⟩) (fun c1 => ?_) (fun c1 => ?_)
    · exact absurd c1 (by omega)
    · refine s_aload_n dX9_begins_8 rfl ?_
      refine s_getr dX9_begins_9 fl_X9_13 kl_7 (by decide) rfl io_196 (z := 2) rfl (rf_7_2 hG.1 io_196) (rk_7_2 io_196).1 ?_
      refine s_iload_n dX9_begins_12 rfl ?_
      refine s_aload_n dX9_begins_13 rfl ?_
      refine s_getr dX9_begins_14 fl_X9_7 kl_7 (by decide) rfl io_196 (z := 1) rfl (rf_7_1 hG.1 io_196) (rk_7_1 io_196).1 ?_
      refine s_iload_n dX9_begins_17 rfl ?_
      refine s_iaload dX9_begins_18 (rk_7_1 io_196) (by omega) (by omega) ?_
      refine s_iastoreG dX9_begins_19 (rk_7_2 io_196) (by omega) (by omega) hG (by first | exact hG.2 _ _ | exact b01_in _ | assumption | exact ⟨by omega, by omega⟩) (fun hG1 => ?_)
      refine s_iinc dX9_begins_20 rfl (by decide) rfl (L' := [_, _]) rfl ?_
      refine s_goto (tgt := 2) dX9_begins_23 (by decide) ?_
      refine ih (i + 1) _ (by omega) (by omega) hG1 (fun x y c => by rw [hs_ne _ (by omega)]; exact fr x y c) (fun j j0 j1 => ?_)
      by_cases q : j = i
      · rw [q, hs_eq]
        exact fr _ _ (by omega)
      · rw [hs_ne _ (by omega)]
        exact H j j0 (by omega)
set_option maxRecDepth 100000 in
set_option maxHeartbeats 4000000 in
theorem c_X9_begins  (hG : G h) (k : ∀ h1 : PH, G h1 → (∀ x y : Int, ¬ x = 196 + 2 → h1 x y = h x y) → (∀ j : Int, 0 ≤ j → j < 61 → h1 (196 + 2) j = h (196 + 1) j) → Q.1 none nN h1) : Cl_ yX9_begins MX9_begins d bc bs [(2, 196)] nN h Q := by
  refine s_enter pn_X9 rfl (Nat.le_of_ble_eq_true rfl) (L := [(2, _), (9, 0)]) rfl ?_
  refine s_iconst dX9_begins_0 ?_
  refine s_istore_n dX9_begins_1 (by decide) rfl (L' := [_, _]) rfl ?_
  exact lp_X9_begins k 61 0 h (Int.le_refl _) (by omega) hG (fun _ _ _ => rfl) (fun j j0 j1 => by omega)
set_option maxRecDepth 100000 in
set_option maxHeartbeats 4000000 in
theorem lp_X9_putsBack  (k : ∀ h : PH, G h → (∀ x y : Int, ¬ x = 196 + 1 → h x y = h0 x y) → (∀ j : Int, 0 ≤ j → j < 61 → h (196 + 1) j = h0 (196 + 2) j) → Q.1 none nN h) : ∀ (m : Nat) (i : Int) (h : PH), (0 ≤ i) → (i + m = 61) → (G h) → (∀ x y : Int, ¬ x = 196 + 1 → h x y = h0 x y) → (∀ j : Int, 0 ≤ j → j < i → h (196 + 1) j = h0 (196 + 2) j) → S_ MX9_putsBack d bc bs Q 2 [(2, 196), (0, i)] [] nN h := by
  intro m
  induction m with
  | zero =>
    intro i h i0 im hG fr H
    refine s_iload_n dX9_putsBack_2 rfl ?_
    refine s_bipush dX9_putsBack_3 (by decide) ?_
    refine s_icmp_ge (tgt := 26) dX9_putsBack_5 (by decide) (by first | exact hG.2 _ _ | exact b01_in _ | assumption | exact ⟨by omega, by omega⟩) (by first | exact hG.2 _ _ | exact b01_in _ | assumption | exact ⟨by omega, by omega⟩) (fun c1 => ?_) (fun c1 => ?_)
    · exact s_return dX9_putsBack_26 rfl (k h hG fr (fun j j0 j1 => H j j0 (by omega)))
    · exact absurd c1 (by omega)
  | succ m ih =>
    intro i h i0 im hG fr H
    refine s_iload_n dX9_putsBack_2 rfl ?_
    refine s_bipush dX9_putsBack_3 (by decide) ?_
    refine s_icmp_ge (tgt := 26) dX9_putsBack_5 (by decide) (by first | exact hG.2 _ _ | exact b01_in _ | assumption | exact ⟨by omega, by omega⟩) (by first | exact hG.2 _ _ | exact b01_in _ | assumption | exact ⟨by omega, by omega⟩) (fun c1 => ?_) (fun c1 => ?_)
    · exact absurd c1 (by omega)
    · refine s_aload_n dX9_putsBack_8 rfl ?_
      refine s_getr dX9_putsBack_9 fl_X9_7 kl_7 (by decide) rfl io_196 (z := 1) rfl (rf_7_1 hG.1 io_196) (rk_7_1 io_196).1 ?_
      refine s_iload_n dX9_putsBack_12 rfl ?_
      refine s_aload_n dX9_putsBack_13 rfl ?_
      refine s_getr dX9_putsBack_14 fl_X9_13 kl_7 (by decide) rfl io_196 (z := 2) rfl (rf_7_2 hG.1 io_196) (rk_7_2 io_196).1 ?_
      refine s_iload_n dX9_putsBack_17 rfl ?_
      refine s_iaload dX9_putsBack_18 (rk_7_2 io_196) (by omega) (by omega) ?_
      refine s_iastoreG dX9_putsBack_19 (rk_7_1 io_196) (by omega) (by omega) hG (by first | exact hG.2 _ _ | exact b01_in _ | assumption | exact ⟨by omega, by omega⟩) (fun hG1 => ?_)
      refine s_iinc dX9_putsBack_20 rfl (by decide) rfl (L' := [_, _]) rfl ?_
      refine s_goto (tgt := 2) dX9_putsBack_23 (by decide) ?_
      refine ih (i + 1) _ (by omega) (by omega) hG1 (fun x y c => by rw [hs_ne _ (by omega)]; exact fr x y c) (fun j j0 j1 => ?_)
      by_cases q : j = i
      · rw [q, hs_eq]
        exact fr _ _ (by omega)
      · rw [hs_ne _ (by omega)]
        exact H j j0 (by omega)
set_option maxRecDepth 100000 in
set_option maxHeartbeats 4000000 in
theorem c_X9_putsBack  (hG : G h) (k : ∀ h1 : PH, G h1 → (∀ x y : Int, ¬ x = 196 + 1 → h1 x y = h x y) → (∀ j : Int, 0 ≤ j → j < 61 → h1 (196 + 1) j = h (196 + 2) j) → Q.1 none nN h1) : Cl_ yX9_putsBack MX9_putsBack d bc bs [(2, 196)] nN h Q := by
  refine s_enter pn_X9 rfl (Nat.le_of_ble_eq_true rfl) (L := [(2, _), (9, 0)]) rfl ?_
  refine s_iconst dX9_putsBack_0 ?_
  refine s_istore_n dX9_putsBack_1 (by decide) rfl (L' := [_, _]) rfl ?_
  exact lp_X9_putsBack k 61 0 h (Int.le_refl _) (by omega) hG (fun _ _ _ => rfl) (fun j j0 j1 => by omega)
set_option maxRecDepth 100000 in
set_option maxHeartbeats 4000000 in
theorem c2_X9_sells {t p v : Int} (M : MR_ h z) (t0 : 0 ≤ t) (t1 : t < 8) (p0 : 1 ≤ p) (p1 : p ≤ 9999) (v0 : 0 ≤ v) (v1 : v ≤ p) (hc : z 1 56 + p - v ≤ 99999) (k : ∀ h1 : PH, MR_ h1 (zput z (fsold (z 1) t p v)) → (∀ x y : Int, ¬ x = 196 + 1 → h1 x y = h x y) → Q.1 none nN h1) : Cl_ yX9_sells MX9_sells d bc bs [(2, 196), (0, t), (0, p), (0, v)] nN h Q := by
  refine s_enter pn_X9 rfl (Nat.le_of_ble_eq_true rfl) (L := [(2, _), (0, _), (0, _), (0, _)]) rfl ?_
  have hG := M.1
  have b56 := (mr_i M).1.2.2.1
  have e56 := mr_f M 56 (by omega) (by omega)
  rw [pm_h (by omega)] at e56
  refine s_aload_n dX9_sells_0 rfl ?_
  refine s_getr dX9_sells_1 fl_X9_7 kl_7 (by decide) rfl io_196 (z := 1) rfl (rf_7_1 hG.1 io_196) (rk_7_1 io_196).1 ?_
  refine s_bipush dX9_sells_4 (by decide) ?_
  refine s_dup2 dX9_sells_6 rfl rfl ?_
  refine s_iaload dX9_sells_7 (rk_7_1 io_196) (by omega) (by omega) ?_
  refine s_iload_n dX9_sells_8 rfl ?_
  refine s_iload_n dX9_sells_9 rfl ?_
  refine s_isub dX9_sells_10 ?_
  refine s_iadd dX9_sells_11 ?_
  refine s_iastoreG dX9_sells_12 (rk_7_1 io_196) (by omega) (by omega) hG (by first | exact hG.2 _ _ | exact b01_in _ | assumption | exact ⟨by omega, by omega⟩) (fun hG1 => ?_)
  refine s_aload_n dX9_sells_13 rfl ?_
  refine s_getr dX9_sells_14 fl_X9_7 kl_7 (by decide) rfl io_196 (z := 1) rfl (rf_7_1 hG1.1 io_196) (rk_7_1 io_196).1 ?_
  refine s_iconst dX9_sells_17 ?_
  refine s_iconst dX9_sells_18 ?_
  refine s_iload_n dX9_sells_19 rfl ?_
  refine s_imul dX9_sells_20 ?_
  refine s_iadd dX9_sells_21 ?_
  refine s_iconst dX9_sells_22 ?_
  refine s_iadd dX9_sells_23 ?_
  refine s_iconst dX9_sells_24 ?_
  refine s_iastoreG dX9_sells_25 (rk_7_1 io_196) (by omega) (by omega) hG1 (by first | exact hG1.2 _ _ | exact hG.2 _ _ | exact b01_in _ | assumption | exact ⟨by omega, by omega⟩) (fun hG2 => ?_)
  refine s_aload_n dX9_sells_26 rfl ?_
  refine s_getr dX9_sells_27 fl_X9_7 kl_7 (by decide) rfl io_196 (z := 1) rfl (rf_7_1 hG2.1 io_196) (rk_7_1 io_196).1 ?_
  refine s_iconst dX9_sells_30 ?_
  refine s_iconst dX9_sells_31 ?_
  refine s_iload_n dX9_sells_32 rfl ?_
  refine s_imul dX9_sells_33 ?_
  refine s_iadd dX9_sells_34 ?_
  refine s_iconst dX9_sells_35 ?_
  refine s_iadd dX9_sells_36 ?_
  refine s_iload_n dX9_sells_37 rfl ?_
  refine s_iastoreG dX9_sells_38 (rk_7_1 io_196) (by omega) (by omega) hG2 (by first | exact hG2.2 _ _ | exact hG.2 _ _ | exact b01_in _ | assumption | exact ⟨by omega, by omega⟩) (fun hG3 => ?_)
  refine s_aload_n dX9_sells_39 rfl ?_
  refine s_getr dX9_sells_40 fl_X9_7 kl_7 (by decide) rfl io_196 (z := 1) rfl (rf_7_1 hG3.1 io_196) (rk_7_1 io_196).1 ?_
  refine s_iconst dX9_sells_43 ?_
  refine s_iconst dX9_sells_44 ?_
  refine s_iload_n dX9_sells_45 rfl ?_
  refine s_imul dX9_sells_46 ?_
  refine s_iadd dX9_sells_47 ?_
  refine s_iconst dX9_sells_48 ?_
  refine s_iadd dX9_sells_49 ?_
  refine s_iload_n dX9_sells_50 rfl ?_
  refine s_iastoreG dX9_sells_51 (rk_7_1 io_196) (by omega) (by omega) hG3 (by first | exact hG3.2 _ _ | exact hG.2 _ _ | exact b01_in _ | assumption | exact ⟨by omega, by omega⟩) (fun hG4 => ?_)
  refine s_return dX9_sells_52 rfl (k _ (mr_put M hG4 (fun x y hx => by rw [hs_ne _ (fun w => hx w.1), hs_ne _ (fun w => hx w.1), hs_ne _ (fun w => hx w.1), hs_ne _ (fun w => hx w.1)]) ?_ (zf_sold (zf_z.mp (mr_i M).1) t0 t1 p0 p1 v0 v1 hc)) (fun x y hx => by rw [hs_ne _ (by omega), hs_ne _ (by omega), hs_ne _ (by omega), hs_ne _ (by omega)]))
  rw [e56, ← fsold_eq t0 t1]
  exact rw_put (rw_put (rw_put (rw_put (mr_f M) (by omega) (by omega) (pm_h (by omega))) (by omega) (by omega) (pm_t (by omega) (by omega) t1 (by omega))) (by omega) (by omega) (pm_t (by omega) (by omega) t1 (by omega))) (by omega) (by omega) (pm_t (by omega) (by omega) t1 (by omega))
set_option maxRecDepth 100000 in
set_option maxHeartbeats 4000000 in
theorem c_X9_hadDied {p q : Int} (hd : 10 ≤ d) (M : MR_ h z) (p0 : 0 ≤ p) (p1 : p < z 0 1) (q0 : 0 ≤ q) (q1 : q < z 0 1) (k : ∀ h1 : PH, MR_ h1 z → FM h h1 → h1 196 0 = h 196 0 → Q.1 (some (0, zifd z p q)) nN h1) : Cl_ yX9_hadDied MX9_hadDied d bc bs [(2, 196), (0, p), (0, q)] nN h Q := by
  refine s_enter pn_X9 rfl (Nat.le_of_ble_eq_true rfl) (L := [(2, _), (0, _), (0, _), (9, 0)]) rfl ?_
  have hG := M.1
  have I := mr_i M
  have hT := I.2.1
  have hP := I.2.2.1
  have hN := I.2.2.2.1
  have nn := M.2.1
  refine s_aload_n dX9_hadDied_0 rfl ?_
  refine s_callV (d' := d - 1) (bc' := 0) (bs' := 0) (as := []) dX9_hadDied_1 vf_X9_439 (dd_ (by omega) (by decide)) ⟨Nat.zero_le _, Nat.zero_le _⟩ rfl rfl (Nat.le_of_ble_eq_true rfl) kl_7 rfl io_196 ?_
  refine c_X9_begins M.1 (fun h1 g1 f1 e1 => ?_)
  have hG1 := g1
  have M1 : MR_ h1 z := mr_to M g1 (fun x y a => f1 x y (by unfold pc_ at a; omega))
  refine s_aload_n dX9_hadDied_4 rfl ?_
  refine s_getr dX9_hadDied_5 fl_X9_7 kl_7 (by decide) rfl io_196 (z := 1) rfl (rf_7_1 hG1.1 io_196) (rk_7_1 io_196).1 ?_
  refine s_bipush dX9_hadDied_8 (by decide) ?_
  refine s_iload_n dX9_hadDied_10 rfl ?_
  refine s_iadd dX9_hadDied_11 ?_
  refine s_iconst dX9_hadDied_12 ?_
  refine s_iastoreG dX9_hadDied_13 (rk_7_1 io_196) (by omega) (by omega) hG1 (by first | exact hG1.2 _ _ | exact hG.2 _ _ | exact b01_in _ | assumption | exact ⟨by omega, by omega⟩) (fun hG2 => ?_)
  refine s_aload_n dX9_hadDied_14 rfl ?_
  refine s_iload_n dX9_hadDied_15 rfl ?_
  refine s_callV (d' := d - 1) (bc' := 0) (bs' := 0) (as := [_]) dX9_hadDied_16 vf_X9_433 (dd_ (by omega) (by decide)) ⟨Nat.zero_le _, Nat.zero_le _⟩ rfl rfl (Nat.le_of_ble_eq_true rfl) kl_7 rfl io_196 ?_
  have M2 : MR_ _ (zput z (fu_ (z 1) (32 + q) 1)) := mr_put M1 hG2 (fun x y hx => by rw [hs_ne _ (fun w => hx w.1)]) (rw_put (mr_f M1) (by omega) (by omega) (pm_h (by omega))) (zf_fu (zf_z.mp I.1) (by unfold zok; omega))
  have p2 : p < zput z (fu_ (z 1) (32 + q) 1) 0 1 := by rw [zput_ne (by omega)]; omega
  refine c_X9_takesAllOf (by omega) M2 (by omega) p2 (fun hT gT fT RT => ?_)
  have hG3 := gT
  have MT := sc_M M2 gT fT
  have tb := zta_bd (mr_i M2) (p := p) (by omega) p2
  refine s_istore_n dX9_hadDied_19 (by decide) rfl (L' := [_, _, _, _]) rfl ?_
  refine s_aload_n dX9_hadDied_20 rfl ?_
  refine s_callV (d' := d - 1) (bc' := 0) (bs' := 0) (as := []) dX9_hadDied_21 vf_X9_442 (dd_ (by omega) (by decide)) ⟨Nat.zero_le _, Nat.zero_le _⟩ rfl rfl (Nat.le_of_ble_eq_true rfl) kl_7 rfl io_196 ?_
  refine c_X9_putsBack gT (fun hB gB fB eB => ?_)
  have hG4 := gB
  have sE := sup_end M f1 e1 (fun x y c => hs_ne _ (by omega)) fT gB fB eB
  have M := sE.1
  
  refine s_iload_n dX9_hadDied_24 rfl ?_
  exact s_ireturn dX9_hadDied_25 rfl (k hB M sE.2.1 sE.2.2)
set_option maxRecDepth 100000 in
set_option maxHeartbeats 4000000 in
theorem c_X9_ifDead {p t : Int} (hd : 12 ≤ d) (M : MR_ h z) (hp : inI p) (ht : inI t) (k : 0 ≤ p → p < z 0 1 → 0 ≤ t → t < z 0 1 → z 1 (32 + t) = 0 → MK_ Q h z 0 (zta (zput z (fu_ (z 1) (32 + t) 1)) p)) (k1 : ¬ ((0 ≤ p ∧ p < z 0 1) ∧ 0 ≤ t ∧ t < z 0 1) → MK_ Q h z 1 0) (k2 : 0 ≤ p → p < z 0 1 → 0 ≤ t → t < z 0 1 → ¬ z 1 (32 + t) = 0 → MK_ Q h z 2 0) : Cl_ yX9_ifDead MX9_ifDead d bc bs [(2, 196), (0, p), (0, t)] nN h Q := by
  refine s_enter pn_X9 rfl (Nat.le_of_ble_eq_true rfl) (L := [(2, _), (0, _), (0, _)]) rfl ?_
  have hG := M.1
  have I := mr_i M
  have hT := I.2.1
  have hP := I.2.2.1
  have hN := I.2.2.2.1
  have nn := M.2.1
  have ed : zdd z t = z 1 (32 + t) := rfl
  refine s_aload_n dX9_ifDead_0 rfl ?_
  refine s_aload_n dX9_ifDead_1 rfl ?_
  refine s_iload_n dX9_ifDead_2 rfl ?_
  refine s_callV (d' := d - 1) (bc' := 0) (bs' := 0) (as := [_]) dX9_ifDead_3 vf_X9_290 (dd_ (by omega) (by decide)) ⟨Nat.zero_le _, Nat.zero_le _⟩ rfl rfl (Nat.le_of_ble_eq_true rfl) kl_7 rfl io_196 ?_
  refine c_X9_isPerson (by omega) M hp ?_
  refine s_if_eq (tgt := 17) dX9_ifDead_6 (by decide) (by first | exact hG.2 _ _ | exact b01_in _ | assumption | exact ⟨by omega, by omega⟩) (fun c1 => ?_) (fun c1 => ?_)
  · have c1 := b01_0.mp c1
    refine s_iconst dX9_ifDead_17 ?_
    refine s_goto (tgt := 34) dX9_ifDead_18 (by decide) ?_
    refine s_putiG 0 dX9_ifDead_34 fl_X9_98 kl_7 (by decide) rfl rfl io_196 (z := 0) rfl (by decide +kernel) hG (by first | exact hG.2 _ _ | exact b01_in _ | assumption | exact ⟨by omega, by omega⟩) (fun hG1 => ?_)
    obtain ⟨M, fm, th⟩ := mr_th M hG1
    refine s_aload_n dX9_ifDead_37 rfl ?_
    refine s_geti dX9_ifDead_38 fl_X9_98 kl_7 (by decide) rfl io_196 (z := 0) rfl ?_
    rw [th]
    refine s_if_le (tgt := 48) dX9_ifDead_41 (by decide) (by first | exact hG1.2 _ _ | exact hG.2 _ _ | exact b01_in _ | assumption | exact ⟨by omega, by omega⟩) (fun c2 => ?_) (fun c2 => ?_)
    · exact absurd c2 (by decide)
    · refine s_iconst dX9_ifDead_44 ?_
      refine s_goto (tgt := 54) dX9_ifDead_45 (by decide) ?_
      exact s_ireturn dX9_ifDead_54 rfl (k1 (by omega) _ M fm th)
  · have c1 := b01_n.mp c1
    refine s_aload_n dX9_ifDead_9 rfl ?_
    refine s_iload_n dX9_ifDead_10 rfl ?_
    refine s_callV (d' := d - 1) (bc' := 0) (bs' := 0) (as := [_]) dX9_ifDead_11 vf_X9_290 (dd_ (by omega) (by decide)) ⟨Nat.zero_le _, Nat.zero_le _⟩ rfl rfl (Nat.le_of_ble_eq_true rfl) kl_7 rfl io_196 ?_
    refine c_X9_isPerson (by omega) M ht ?_
    refine s_if_ne (tgt := 21) dX9_ifDead_14 (by decide) (by first | exact hG.2 _ _ | exact b01_in _ | assumption | exact ⟨by omega, by omega⟩) (fun c3 => ?_) (fun c3 => ?_)
    · have c3 := b01_n.mp c3
      refine s_aload_n dX9_ifDead_21 rfl ?_
      refine s_iload_n dX9_ifDead_22 rfl ?_
      refine s_callV (d' := d - 1) (bc' := 0) (bs' := 0) (as := [_]) dX9_ifDead_23 vf_X9_308 (dd_ (by omega) (by decide)) ⟨Nat.zero_le _, Nat.zero_le _⟩ rfl rfl (Nat.le_of_ble_eq_true rfl) kl_7 rfl io_196 ?_
      refine c_X9_isDead M (by omega) (by omega) ?_
      refine s_if_eq (tgt := 33) dX9_ifDead_26 (by decide) (by first | exact hG.2 _ _ | exact b01_in _ | assumption | exact ⟨by omega, by omega⟩) (fun c4 => ?_) (fun c4 => ?_)
      · have c4 := b01_0.mp c4
        refine s_iconst dX9_ifDead_33 ?_
        refine s_putiG 0 dX9_ifDead_34 fl_X9_98 kl_7 (by decide) rfl rfl io_196 (z := 0) rfl (by decide +kernel) hG (by first | exact hG.2 _ _ | exact b01_in _ | assumption | exact ⟨by omega, by omega⟩) (fun hG2 => ?_)
        obtain ⟨M, fm, th⟩ := mr_th M hG2
        refine s_aload_n dX9_ifDead_37 rfl ?_
        refine s_geti dX9_ifDead_38 fl_X9_98 kl_7 (by decide) rfl io_196 (z := 0) rfl ?_
        rw [th]
        refine s_if_le (tgt := 48) dX9_ifDead_41 (by decide) (by first | exact hG2.2 _ _ | exact hG.2 _ _ | exact b01_in _ | assumption | exact ⟨by omega, by omega⟩) (fun c5 => ?_) (fun c5 => ?_)
        · refine s_aload_n dX9_ifDead_48 rfl ?_
          refine s_iload_n dX9_ifDead_49 rfl ?_
          refine s_iload_n dX9_ifDead_50 rfl ?_
          refine s_callV (d' := d - 1) (bc' := 0) (bs' := 0) (as := [_, _]) dX9_ifDead_51 vf_X9_445 (dd_ (by omega) (by decide)) ⟨Nat.zero_le _, Nat.zero_le _⟩ rfl rfl (Nat.le_of_ble_eq_true rfl) kl_7 rfl io_196 ?_
          refine c_X9_hadDied (by omega) M (by omega) (by omega) (by omega) (by omega) (fun hhG3 MhG3 fhG3 thG3 => ?_)
          have hG3 := MhG3.1
          have M := MhG3
          have fm := fm.tr fhG3
          have th := thG3.trans th
          exact s_ireturn dX9_ifDead_54 rfl (k (by omega) (by omega) (by omega) (by omega) (by omega) _ M fm th)
        · exact absurd c5 (by decide)
      · have c4 := b01_n.mp c4
        refine s_iconst dX9_ifDead_29 ?_
        refine s_goto (tgt := 34) dX9_ifDead_30 (by decide) ?_
        refine s_putiG 0 dX9_ifDead_34 fl_X9_98 kl_7 (by decide) rfl rfl io_196 (z := 0) rfl (by decide +kernel) hG (by first | exact hG.2 _ _ | exact b01_in _ | assumption | exact ⟨by omega, by omega⟩) (fun hG4 => ?_)
        obtain ⟨M, fm, th⟩ := mr_th M hG4
        refine s_aload_n dX9_ifDead_37 rfl ?_
        refine s_geti dX9_ifDead_38 fl_X9_98 kl_7 (by decide) rfl io_196 (z := 0) rfl ?_
        rw [th]
        refine s_if_le (tgt := 48) dX9_ifDead_41 (by decide) (by first | exact hG4.2 _ _ | exact hG.2 _ _ | exact b01_in _ | assumption | exact ⟨by omega, by omega⟩) (fun c6 => ?_) (fun c6 => ?_)
        · exact absurd c6 (by decide)
        · refine s_iconst dX9_ifDead_44 ?_
          refine s_goto (tgt := 54) dX9_ifDead_45 (by decide) ?_
          exact s_ireturn dX9_ifDead_54 rfl (k2 (by omega) (by omega) (by omega) (by omega) (by omega) _ M fm th)
    · have c3 := b01_0.mp c3
      refine s_iconst dX9_ifDead_17 ?_
      refine s_goto (tgt := 34) dX9_ifDead_18 (by decide) ?_
      refine s_putiG 0 dX9_ifDead_34 fl_X9_98 kl_7 (by decide) rfl rfl io_196 (z := 0) rfl (by decide +kernel) hG (by first | exact hG.2 _ _ | exact b01_in _ | assumption | exact ⟨by omega, by omega⟩) (fun hG5 => ?_)
      obtain ⟨M, fm, th⟩ := mr_th M hG5
      refine s_aload_n dX9_ifDead_37 rfl ?_
      refine s_geti dX9_ifDead_38 fl_X9_98 kl_7 (by decide) rfl io_196 (z := 0) rfl ?_
      rw [th]
      refine s_if_le (tgt := 48) dX9_ifDead_41 (by decide) (by first | exact hG5.2 _ _ | exact hG.2 _ _ | exact b01_in _ | assumption | exact ⟨by omega, by omega⟩) (fun c7 => ?_) (fun c7 => ?_)
      · exact absurd c7 (by decide)
      · refine s_iconst dX9_ifDead_44 ?_
        refine s_goto (tgt := 54) dX9_ifDead_45 (by decide) ?_
        exact s_ireturn dX9_ifDead_54 rfl (k1 (by omega) _ M fm th)
set_option maxRecDepth 100000 in
set_option maxHeartbeats 4000000 in
theorem c_X9_ifDebt {p v : Int} (hd : 11 ≤ d) (M : MR_ h z) (hp : inI p) (hv : inI v) (k : 0 ≤ p → p < z 0 1 → 0 ≤ v → v ≤ 99999 → MK_ Q h z 0 (zta (zput z (fu_ (z 1) (56 + 1) v)) p)) (k1 : ¬ (0 ≤ p ∧ p < z 0 1) → MK_ Q h z 1 0) (k2 : 0 ≤ p → p < z 0 1 → ¬ (0 ≤ v ∧ v ≤ 99999) → MK_ Q h z 2 0) : Cl_ yX9_ifDebt MX9_ifDebt d bc bs [(2, 196), (0, p), (0, v)] nN h Q := by
  refine s_enter pn_X9 rfl (Nat.le_of_ble_eq_true rfl) (L := [(2, _), (0, _), (0, _), (9, 0)]) rfl ?_
  have hG := M.1
  have I := mr_i M
  have hT := I.2.1
  have hP := I.2.2.1
  have hN := I.2.2.2.1
  have nn := M.2.1
  refine s_aload_n dX9_ifDebt_0 rfl ?_
  refine s_aload_n dX9_ifDebt_1 rfl ?_
  refine s_iload_n dX9_ifDebt_2 rfl ?_
  refine s_callV (d' := d - 1) (bc' := 0) (bs' := 0) (as := [_]) dX9_ifDebt_3 vf_X9_290 (dd_ (by omega) (by decide)) ⟨Nat.zero_le _, Nat.zero_le _⟩ rfl rfl (Nat.le_of_ble_eq_true rfl) kl_7 rfl io_196 ?_
  refine c_X9_isPerson (by omega) M hp ?_
  refine s_if_ne (tgt := 13) dX9_ifDebt_6 (by decide) (by first | exact hG.2 _ _ | exact b01_in _ | assumption | exact ⟨by omega, by omega⟩) (fun c1 => ?_) (fun c1 => ?_)
  · have c1 := b01_n.mp c1
    refine s_iload_n dX9_ifDebt_13 rfl ?_
    refine s_i2l dX9_ifDebt_14 (by first | exact hG.2 _ _ | exact b01_in _ | assumption | exact ⟨by omega, by omega⟩) ?_
    refine s_lconstz (z := 0) dX9_ifDebt_15 rfl ?_
    refine s_ldc2 dX9_ifDebt_16 kc_X9_344 ?_
    refine s_callS (d' := d - 1) (bc' := 0) (bs' := 0) (as := [_, _, _]) dX9_ifDebt_19 sf_X9_143 (dd_ (by omega) (by decide)) ⟨Nat.zero_le _, Nat.zero_le _⟩ rfl rfl (Nat.le_of_ble_eq_true rfl) ?_
    refine c_X9_isIn (inI_L (by assumption)) ⟨by omega, by omega⟩ ⟨by omega, by omega⟩ ?_
    refine s_if_eq (tgt := 29) dX9_ifDebt_22 (by decide) (by first | exact hG.2 _ _ | exact b01_in _ | assumption | exact ⟨by omega, by omega⟩) (fun c2 => ?_) (fun c2 => ?_)
    · have c2 := b01_0.mp c2
      refine s_iconst dX9_ifDebt_29 ?_
      refine s_putiG 0 dX9_ifDebt_30 fl_X9_98 kl_7 (by decide) rfl rfl io_196 (z := 0) rfl (by decide +kernel) hG (by first | exact hG.2 _ _ | exact b01_in _ | assumption | exact ⟨by omega, by omega⟩) (fun hG1 => ?_)
      obtain ⟨M, fm, th⟩ := mr_th M hG1
      refine s_aload_n dX9_ifDebt_33 rfl ?_
      refine s_geti dX9_ifDebt_34 fl_X9_98 kl_7 (by decide) rfl io_196 (z := 0) rfl ?_
      rw [th]
      refine s_if_le (tgt := 42) dX9_ifDebt_37 (by decide) (by first | exact hG1.2 _ _ | exact hG.2 _ _ | exact b01_in _ | assumption | exact ⟨by omega, by omega⟩) (fun c3 => ?_) (fun c3 => ?_)
      · exact absurd c3 (by decide)
      · refine s_iconst dX9_ifDebt_40 ?_
        exact s_ireturn dX9_ifDebt_41 rfl (k2 (by omega) (by omega) (by omega) _ M fm th)
    · have c2 := b01_n.mp c2
      refine s_iconst dX9_ifDebt_25 ?_
      refine s_goto (tgt := 30) dX9_ifDebt_26 (by decide) ?_
      refine s_putiG 0 dX9_ifDebt_30 fl_X9_98 kl_7 (by decide) rfl rfl io_196 (z := 0) rfl (by decide +kernel) hG (by first | exact hG.2 _ _ | exact b01_in _ | assumption | exact ⟨by omega, by omega⟩) (fun hG2 => ?_)
      obtain ⟨M, fm, th⟩ := mr_th M hG2
      refine s_aload_n dX9_ifDebt_33 rfl ?_
      refine s_geti dX9_ifDebt_34 fl_X9_98 kl_7 (by decide) rfl io_196 (z := 0) rfl ?_
      rw [th]
      refine s_if_le (tgt := 42) dX9_ifDebt_37 (by decide) (by first | exact hG2.2 _ _ | exact hG.2 _ _ | exact b01_in _ | assumption | exact ⟨by omega, by omega⟩) (fun c4 => ?_) (fun c4 => ?_)
      · refine s_aload_n dX9_ifDebt_42 rfl ?_
        refine s_callV (d' := d - 1) (bc' := 0) (bs' := 0) (as := []) dX9_ifDebt_43 vf_X9_439 (dd_ (by omega) (by decide)) ⟨Nat.zero_le _, Nat.zero_le _⟩ rfl rfl (Nat.le_of_ble_eq_true rfl) kl_7 rfl io_196 ?_
        refine c_X9_begins M.1 (fun h1 g1 f1 e1 => ?_)
        have hG3 := g1
        have M1 : MR_ h1 z := mr_to M g1 (fun x y a => f1 x y (by unfold pc_ at a; omega))
        refine s_aload_n dX9_ifDebt_46 rfl ?_
        refine s_getr dX9_ifDebt_47 fl_X9_7 kl_7 (by decide) rfl io_196 (z := 1) rfl (rf_7_1 hG3.1 io_196) (rk_7_1 io_196).1 ?_
        refine s_bipush dX9_ifDebt_50 (by decide) ?_
        refine s_iload_n dX9_ifDebt_52 rfl ?_
        refine s_iastoreG dX9_ifDebt_53 (rk_7_1 io_196) (by omega) (by omega) hG3 (by first | exact hG3.2 _ _ | exact hG.2 _ _ | exact b01_in _ | assumption | exact ⟨by omega, by omega⟩) (fun hG4 => ?_)
        refine s_aload_n dX9_ifDebt_54 rfl ?_
        refine s_iload_n dX9_ifDebt_55 rfl ?_
        refine s_callV (d' := d - 1) (bc' := 0) (bs' := 0) (as := [_]) dX9_ifDebt_56 vf_X9_433 (dd_ (by omega) (by decide)) ⟨Nat.zero_le _, Nat.zero_le _⟩ rfl rfl (Nat.le_of_ble_eq_true rfl) kl_7 rfl io_196 ?_
        have M2 : MR_ _ (zput z (fu_ (z 1) (56 + 1) v)) := mr_put M1 hG4 (fun x y hx => by rw [hs_ne _ (fun w => hx w.1)]) (rw_put (mr_f M1) (by omega) (by omega) (pm_h (by omega))) (zf_fu (zf_z.mp I.1) (by unfold zok; omega))
        have p2 : p < zput z (fu_ (z 1) (56 + 1) v) 0 1 := by rw [zput_ne (by omega)]; omega
        refine c_X9_takesAllOf (by omega) M2 (by omega) p2 (fun hT gT fT RT => ?_)
        have hG5 := gT
        have MT := sc_M M2 gT fT
        have tb := zta_bd (mr_i M2) (p := p) (by omega) p2
        refine s_istore_n dX9_ifDebt_59 (by decide) rfl (L' := [_, _, _, _]) rfl ?_
        refine s_aload_n dX9_ifDebt_60 rfl ?_
        refine s_callV (d' := d - 1) (bc' := 0) (bs' := 0) (as := []) dX9_ifDebt_61 vf_X9_442 (dd_ (by omega) (by decide)) ⟨Nat.zero_le _, Nat.zero_le _⟩ rfl rfl (Nat.le_of_ble_eq_true rfl) kl_7 rfl io_196 ?_
        refine c_X9_putsBack gT (fun hB gB fB eB => ?_)
        have hG6 := gB
        have sE := sup_end M f1 e1 (fun x y c => hs_ne _ (by omega)) fT gB fB eB
        have M := sE.1
        have fm := fm.tr sE.2.1
        have th := sE.2.2.trans th
        refine s_iload_n dX9_ifDebt_64 rfl ?_
        exact s_ireturn dX9_ifDebt_65 rfl (k (by omega) (by omega) (by omega) (by omega) _ M fm th)
      · exact absurd c4 (by decide)
  · have c1 := b01_0.mp c1
    refine s_iconst dX9_ifDebt_9 ?_
    refine s_goto (tgt := 30) dX9_ifDebt_10 (by decide) ?_
    refine s_putiG 0 dX9_ifDebt_30 fl_X9_98 kl_7 (by decide) rfl rfl io_196 (z := 0) rfl (by decide +kernel) hG (by first | exact hG.2 _ _ | exact b01_in _ | assumption | exact ⟨by omega, by omega⟩) (fun hG7 => ?_)
    obtain ⟨M, fm, th⟩ := mr_th M hG7
    refine s_aload_n dX9_ifDebt_33 rfl ?_
    refine s_geti dX9_ifDebt_34 fl_X9_98 kl_7 (by decide) rfl io_196 (z := 0) rfl ?_
    rw [th]
    refine s_if_le (tgt := 42) dX9_ifDebt_37 (by decide) (by first | exact hG7.2 _ _ | exact hG.2 _ _ | exact b01_in _ | assumption | exact ⟨by omega, by omega⟩) (fun c5 => ?_) (fun c5 => ?_)
    · exact absurd c5 (by decide)
    · refine s_iconst dX9_ifDebt_40 ?_
      exact s_ireturn dX9_ifDebt_41 rfl (k1 (by omega) _ M fm th)
set_option maxRecDepth 100000 in
set_option maxHeartbeats 4000000 in
theorem c_X9_ifRenounced {p g : Int} (hd : 11 ≤ d) (M : MR_ h z) (hp : inI p) (hg : inI g) (k : 0 ≤ p → p < z 0 1 → 0 ≤ g → g < z 0 2 → MK_ Q h z 0 (zta (zput z (fu_ (z 1) (44 + g) 1)) p)) (k1 : ¬ ((0 ≤ p ∧ p < z 0 1) ∧ 0 ≤ g ∧ g < z 0 2) → MK_ Q h z 1 0) : Cl_ yX9_ifRenounced MX9_ifRenounced d bc bs [(2, 196), (0, p), (0, g)] nN h Q := by
  refine s_enter pn_X9 rfl (Nat.le_of_ble_eq_true rfl) (L := [(2, _), (0, _), (0, _), (9, 0)]) rfl ?_
  have hG := M.1
  have I := mr_i M
  have hT := I.2.1
  have hP := I.2.2.1
  have hN := I.2.2.2.1
  have nn := M.2.1
  refine s_aload_n dX9_ifRenounced_0 rfl ?_
  refine s_aload_n dX9_ifRenounced_1 rfl ?_
  refine s_iload_n dX9_ifRenounced_2 rfl ?_
  refine s_callV (d' := d - 1) (bc' := 0) (bs' := 0) (as := [_]) dX9_ifRenounced_3 vf_X9_290 (dd_ (by omega) (by decide)) ⟨Nat.zero_le _, Nat.zero_le _⟩ rfl rfl (Nat.le_of_ble_eq_true rfl) kl_7 rfl io_196 ?_
  refine c_X9_isPerson (by omega) M hp ?_
  refine s_if_eq (tgt := 21) dX9_ifRenounced_6 (by decide) (by first | exact hG.2 _ _ | exact b01_in _ | assumption | exact ⟨by omega, by omega⟩) (fun c1 => ?_) (fun c1 => ?_)
  · have c1 := b01_0.mp c1
    refine s_iconst dX9_ifRenounced_21 ?_
    refine s_putiG 0 dX9_ifRenounced_22 fl_X9_98 kl_7 (by decide) rfl rfl io_196 (z := 0) rfl (by decide +kernel) hG (by first | exact hG.2 _ _ | exact b01_in _ | assumption | exact ⟨by omega, by omega⟩) (fun hG1 => ?_)
    obtain ⟨M, fm, th⟩ := mr_th M hG1
    refine s_aload_n dX9_ifRenounced_25 rfl ?_
    refine s_geti dX9_ifRenounced_26 fl_X9_98 kl_7 (by decide) rfl io_196 (z := 0) rfl ?_
    rw [th]
    refine s_if_le (tgt := 34) dX9_ifRenounced_29 (by decide) (by first | exact hG1.2 _ _ | exact hG.2 _ _ | exact b01_in _ | assumption | exact ⟨by omega, by omega⟩) (fun c2 => ?_) (fun c2 => ?_)
    · exact absurd c2 (by decide)
    · refine s_iconst dX9_ifRenounced_32 ?_
      exact s_ireturn dX9_ifRenounced_33 rfl (k1 (by omega) _ M fm th)
  · have c1 := b01_n.mp c1
    refine s_aload_n dX9_ifRenounced_9 rfl ?_
    refine s_iload_n dX9_ifRenounced_10 rfl ?_
    refine s_callV (d' := d - 1) (bc' := 0) (bs' := 0) (as := [_]) dX9_ifRenounced_11 vf_X9_319 (dd_ (by omega) (by decide)) ⟨Nat.zero_le _, Nat.zero_le _⟩ rfl rfl (Nat.le_of_ble_eq_true rfl) kl_7 rfl io_196 ?_
    refine c_X9_isGift (by omega) M hg ?_
    refine s_if_eq (tgt := 21) dX9_ifRenounced_14 (by decide) (by first | exact hG.2 _ _ | exact b01_in _ | assumption | exact ⟨by omega, by omega⟩) (fun c3 => ?_) (fun c3 => ?_)
    · have c3 := b01_0.mp c3
      refine s_iconst dX9_ifRenounced_21 ?_
      refine s_putiG 0 dX9_ifRenounced_22 fl_X9_98 kl_7 (by decide) rfl rfl io_196 (z := 0) rfl (by decide +kernel) hG (by first | exact hG.2 _ _ | exact b01_in _ | assumption | exact ⟨by omega, by omega⟩) (fun hG2 => ?_)
      obtain ⟨M, fm, th⟩ := mr_th M hG2
      refine s_aload_n dX9_ifRenounced_25 rfl ?_
      refine s_geti dX9_ifRenounced_26 fl_X9_98 kl_7 (by decide) rfl io_196 (z := 0) rfl ?_
      rw [th]
      refine s_if_le (tgt := 34) dX9_ifRenounced_29 (by decide) (by first | exact hG2.2 _ _ | exact hG.2 _ _ | exact b01_in _ | assumption | exact ⟨by omega, by omega⟩) (fun c4 => ?_) (fun c4 => ?_)
      · exact absurd c4 (by decide)
      · refine s_iconst dX9_ifRenounced_32 ?_
        exact s_ireturn dX9_ifRenounced_33 rfl (k1 (by omega) _ M fm th)
    · have c3 := b01_n.mp c3
      refine s_iconst dX9_ifRenounced_17 ?_
      refine s_goto (tgt := 22) dX9_ifRenounced_18 (by decide) ?_
      refine s_putiG 0 dX9_ifRenounced_22 fl_X9_98 kl_7 (by decide) rfl rfl io_196 (z := 0) rfl (by decide +kernel) hG (by first | exact hG.2 _ _ | exact b01_in _ | assumption | exact ⟨by omega, by omega⟩) (fun hG3 => ?_)
      obtain ⟨M, fm, th⟩ := mr_th M hG3
      refine s_aload_n dX9_ifRenounced_25 rfl ?_
      refine s_geti dX9_ifRenounced_26 fl_X9_98 kl_7 (by decide) rfl io_196 (z := 0) rfl ?_
      rw [th]
      refine s_if_le (tgt := 34) dX9_ifRenounced_29 (by decide) (by first | exact hG3.2 _ _ | exact hG.2 _ _ | exact b01_in _ | assumption | exact ⟨by omega, by omega⟩) (fun c5 => ?_) (fun c5 => ?_)
      · refine s_aload_n dX9_ifRenounced_34 rfl ?_
        refine s_callV (d' := d - 1) (bc' := 0) (bs' := 0) (as := []) dX9_ifRenounced_35 vf_X9_439 (dd_ (by omega) (by decide)) ⟨Nat.zero_le _, Nat.zero_le _⟩ rfl rfl (Nat.le_of_ble_eq_true rfl) kl_7 rfl io_196 ?_
        refine c_X9_begins M.1 (fun h1 g1 f1 e1 => ?_)
        have hG4 := g1
        have M1 : MR_ h1 z := mr_to M g1 (fun x y a => f1 x y (by unfold pc_ at a; omega))
        refine s_aload_n dX9_ifRenounced_38 rfl ?_
        refine s_getr dX9_ifRenounced_39 fl_X9_7 kl_7 (by decide) rfl io_196 (z := 1) rfl (rf_7_1 hG4.1 io_196) (rk_7_1 io_196).1 ?_
        refine s_bipush dX9_ifRenounced_42 (by decide) ?_
        refine s_iload_n dX9_ifRenounced_44 rfl ?_
        refine s_iadd dX9_ifRenounced_45 ?_
        refine s_iconst dX9_ifRenounced_46 ?_
        refine s_iastoreG dX9_ifRenounced_47 (rk_7_1 io_196) (by omega) (by omega) hG4 (by first | exact hG4.2 _ _ | exact hG.2 _ _ | exact b01_in _ | assumption | exact ⟨by omega, by omega⟩) (fun hG5 => ?_)
        refine s_aload_n dX9_ifRenounced_48 rfl ?_
        refine s_iload_n dX9_ifRenounced_49 rfl ?_
        refine s_callV (d' := d - 1) (bc' := 0) (bs' := 0) (as := [_]) dX9_ifRenounced_50 vf_X9_433 (dd_ (by omega) (by decide)) ⟨Nat.zero_le _, Nat.zero_le _⟩ rfl rfl (Nat.le_of_ble_eq_true rfl) kl_7 rfl io_196 ?_
        have M2 : MR_ _ (zput z (fu_ (z 1) (44 + g) 1)) := mr_put M1 hG5 (fun x y hx => by rw [hs_ne _ (fun w => hx w.1)]) (rw_put (mr_f M1) (by omega) (by omega) (pm_h (by omega))) (zf_fu (zf_z.mp I.1) (by unfold zok; omega))
        have p2 : p < zput z (fu_ (z 1) (44 + g) 1) 0 1 := by rw [zput_ne (by omega)]; omega
        refine c_X9_takesAllOf (by omega) M2 (by omega) p2 (fun hT gT fT RT => ?_)
        have hG6 := gT
        have MT := sc_M M2 gT fT
        have tb := zta_bd (mr_i M2) (p := p) (by omega) p2
        refine s_istore_n dX9_ifRenounced_53 (by decide) rfl (L' := [_, _, _, _]) rfl ?_
        refine s_aload_n dX9_ifRenounced_54 rfl ?_
        refine s_callV (d' := d - 1) (bc' := 0) (bs' := 0) (as := []) dX9_ifRenounced_55 vf_X9_442 (dd_ (by omega) (by decide)) ⟨Nat.zero_le _, Nat.zero_le _⟩ rfl rfl (Nat.le_of_ble_eq_true rfl) kl_7 rfl io_196 ?_
        refine c_X9_putsBack gT (fun hB gB fB eB => ?_)
        have hG7 := gB
        have sE := sup_end M f1 e1 (fun x y c => hs_ne _ (by omega)) fT gB fB eB
        have M := sE.1
        have fm := fm.tr sE.2.1
        have th := sE.2.2.trans th
        refine s_iload_n dX9_ifRenounced_58 rfl ?_
        exact s_ireturn dX9_ifRenounced_59 rfl (k (by omega) (by omega) (by omega) (by omega) _ M fm th)
      · exact absurd c5 (by decide)
set_option maxRecDepth 100000 in
set_option maxHeartbeats 4000000 in
theorem c_X9_ifHeld {g : Int} (hd : 11 ≤ d) (M : MR_ h z) (hg : inI g) (k : 0 ≤ g → g < z 0 2 → ¬ z 7 g = -1 → MK_ Q h z 0 (sumI (zgt (zput z (fu_ (z 1) (8 + z 7 g) 0)) g) 0 7)) (k1 : ¬ (0 ≤ g ∧ g < z 0 2) → MK_ Q h z 1 0) (k2 : 0 ≤ g → g < z 0 2 → z 7 g = -1 → MK_ Q h z 2 0) : Cl_ yX9_ifHeld MX9_ifHeld d bc bs [(2, 196), (0, g)] nN h Q := by
  refine s_enter pn_X9 rfl (Nat.le_of_ble_eq_true rfl) (L := [(2, _), (0, _), (9, 0)]) rfl ?_
  have hG := M.1
  have I := mr_i M
  have hT := I.2.1
  have hP := I.2.2.1
  have hN := I.2.2.2.1
  have nn := M.2.1
  refine s_aload_n dX9_ifHeld_0 rfl ?_
  refine s_aload_n dX9_ifHeld_1 rfl ?_
  refine s_iload_n dX9_ifHeld_2 rfl ?_
  refine s_callV (d' := d - 1) (bc' := 0) (bs' := 0) (as := [_]) dX9_ifHeld_3 vf_X9_319 (dd_ (by omega) (by decide)) ⟨Nat.zero_le _, Nat.zero_le _⟩ rfl rfl (Nat.le_of_ble_eq_true rfl) kl_7 rfl io_196 ?_
  refine c_X9_isGift (by omega) M hg ?_
  refine s_if_ne (tgt := 13) dX9_ifHeld_6 (by decide) (by first | exact hG.2 _ _ | exact b01_in _ | assumption | exact ⟨by omega, by omega⟩) (fun c1 => ?_) (fun c1 => ?_)
  · have c1 := b01_n.mp c1
    refine s_aload_n dX9_ifHeld_13 rfl ?_
    refine s_iload_n dX9_ifHeld_14 rfl ?_
    refine s_iconst dX9_ifHeld_15 ?_
    refine s_callV (d' := d - 1) (bc' := 0) (bs' := 0) (as := [_, _]) dX9_ifHeld_16 vf_X9_317 (dd_ (by omega) (by decide)) ⟨Nat.zero_le _, Nat.zero_le _⟩ rfl rfl (Nat.le_of_ble_eq_true rfl) kl_7 rfl io_196 ?_
    have gg := I.2.2.2.2.2 g (by omega) (by omega)
    have t9 : -1 ≤ z 7 g ∧ z 7 g < z 0 0 := by have w := gg.1; have w1 := gg.2.2.1; have w2 := gg.2.2.2.1; omega
    refine c_X9_of M (by omega) (by omega) (by omega) (by omega) (j := 7) (by omega) ?_
    refine s_iconst dX9_ifHeld_19 ?_
    refine s_icmp_eq (tgt := 27) dX9_ifHeld_20 (by decide) (by first | exact hG.2 _ _ | exact b01_in _ | assumption | exact ⟨by omega, by omega⟩) (by first | exact hG.2 _ _ | exact b01_in _ | assumption | exact ⟨by omega, by omega⟩) (fun c2 => ?_) (fun c2 => ?_)
    · refine s_iconst dX9_ifHeld_27 ?_
      refine s_putiG 0 dX9_ifHeld_28 fl_X9_98 kl_7 (by decide) rfl rfl io_196 (z := 0) rfl (by decide +kernel) hG (by first | exact hG.2 _ _ | exact b01_in _ | assumption | exact ⟨by omega, by omega⟩) (fun hG1 => ?_)
      obtain ⟨M, fm, th⟩ := mr_th M hG1
      refine s_aload_n dX9_ifHeld_31 rfl ?_
      refine s_geti dX9_ifHeld_32 fl_X9_98 kl_7 (by decide) rfl io_196 (z := 0) rfl ?_
      rw [th]
      refine s_if_le (tgt := 40) dX9_ifHeld_35 (by decide) (by first | exact hG1.2 _ _ | exact hG.2 _ _ | exact b01_in _ | assumption | exact ⟨by omega, by omega⟩) (fun c3 => ?_) (fun c3 => ?_)
      · exact absurd c3 (by decide)
      · refine s_iconst dX9_ifHeld_38 ?_
        exact s_ireturn dX9_ifHeld_39 rfl (k2 (by omega) (by omega) (by omega) _ M fm th)
    · refine s_iconst dX9_ifHeld_23 ?_
      refine s_goto (tgt := 28) dX9_ifHeld_24 (by decide) ?_
      refine s_putiG 0 dX9_ifHeld_28 fl_X9_98 kl_7 (by decide) rfl rfl io_196 (z := 0) rfl (by decide +kernel) hG (by first | exact hG.2 _ _ | exact b01_in _ | assumption | exact ⟨by omega, by omega⟩) (fun hG2 => ?_)
      obtain ⟨M, fm, th⟩ := mr_th M hG2
      refine s_aload_n dX9_ifHeld_31 rfl ?_
      refine s_geti dX9_ifHeld_32 fl_X9_98 kl_7 (by decide) rfl io_196 (z := 0) rfl ?_
      rw [th]
      refine s_if_le (tgt := 40) dX9_ifHeld_35 (by decide) (by first | exact hG2.2 _ _ | exact hG.2 _ _ | exact b01_in _ | assumption | exact ⟨by omega, by omega⟩) (fun c4 => ?_) (fun c4 => ?_)
      · refine s_aload_n dX9_ifHeld_40 rfl ?_
        refine s_callV (d' := d - 1) (bc' := 0) (bs' := 0) (as := []) dX9_ifHeld_41 vf_X9_439 (dd_ (by omega) (by decide)) ⟨Nat.zero_le _, Nat.zero_le _⟩ rfl rfl (Nat.le_of_ble_eq_true rfl) kl_7 rfl io_196 ?_
        refine c_X9_begins M.1 (fun h1 g1 f1 e1 => ?_)
        have hG3 := g1
        have M1 : MR_ h1 z := mr_to M g1 (fun x y a => f1 x y (by unfold pc_ at a; omega))
        refine s_aload_n dX9_ifHeld_44 rfl ?_
        refine s_getr dX9_ifHeld_45 fl_X9_7 kl_7 (by decide) rfl io_196 (z := 1) rfl (rf_7_1 hG3.1 io_196) (rk_7_1 io_196).1 ?_
        refine s_iconst dX9_ifHeld_48 ?_
        refine s_iconst dX9_ifHeld_49 ?_
        refine s_aload_n dX9_ifHeld_50 rfl ?_
        refine s_iload_n dX9_ifHeld_51 rfl ?_
        refine s_iconst dX9_ifHeld_52 ?_
        refine s_callV (d' := d - 1) (bc' := 0) (bs' := 0) (as := [_, _]) dX9_ifHeld_53 vf_X9_317 (dd_ (by omega) (by decide)) ⟨Nat.zero_le _, Nat.zero_le _⟩ rfl rfl (Nat.le_of_ble_eq_true rfl) kl_7 rfl io_196 ?_
        refine c_X9_of M1 (by omega) (by omega) (by omega) (by omega) (j := 7) (by omega) ?_
        refine s_imul dX9_ifHeld_56 ?_
        refine s_iadd dX9_ifHeld_57 ?_
        refine s_iconst dX9_ifHeld_58 ?_
        refine s_iadd dX9_ifHeld_59 ?_
        refine s_iconst dX9_ifHeld_60 ?_
        refine s_iastoreG dX9_ifHeld_61 (rk_7_1 io_196) (by omega) (by omega) hG3 (by first | exact hG3.2 _ _ | exact hG.2 _ _ | exact b01_in _ | assumption | exact ⟨by omega, by omega⟩) (fun hG4 => ?_)
        refine s_aload_n dX9_ifHeld_62 rfl ?_
        refine s_callV (d' := d - 1) (bc' := 0) (bs' := 0) (as := []) dX9_ifHeld_63 vf_X9_405 (dd_ (by omega) (by decide)) ⟨Nat.zero_le _, Nat.zero_le _⟩ rfl rfl (Nat.le_of_ble_eq_true rfl) kl_7 rfl io_196 ?_
        have M2 : MR_ _ (zput z (fu_ (z 1) (8 + z 7 g) 0)) := mr_put M1 hG4 (fun x y hx => by rw [hs_ne _ (fun w => hx w.1)]) (rw_put (mr_f M1) (by omega) (by omega) (pm_t (v := 1) (by omega) (by omega) (by omega) (by omega))) (zf_fu (zf_z.mp I.1) (by unfold zok; omega))
        have g2 : g < zput z (fu_ (z 1) (8 + z 7 g) 0) 0 2 := by rw [zput_ne (by omega)]; omega
        refine c_X9_lays (by omega) M2 (fun hT gT fT RT => ?_)
        have hG5 := gT
        refine s_aload_n dX9_ifHeld_66 rfl ?_
        refine s_iload_n dX9_ifHeld_67 rfl ?_
        refine s_bipush dX9_ifHeld_68 (by decide) ?_
        refine s_aload_n dX9_ifHeld_70 rfl ?_
        refine s_getr dX9_ifHeld_71 fl_X9_70 kl_7 (by decide) rfl io_196 (z := 31) rfl (rf_7_31 hG5.1 io_196) (rk_7_31 io_196).1 ?_
        refine s_callV (d' := d - 1) (bc' := 0) (bs' := 0) (as := [_, _, _]) dX9_ifHeld_74 vf_X9_411 (dd_ (by omega) (by decide)) ⟨Nat.zero_le _, Nat.zero_le _⟩ rfl rfl (Nat.le_of_ble_eq_true rfl) kl_7 rfl io_196 ?_
        refine c_X9_inAll (rk_7_31 io_196) gT (by omega) (by omega) (by omega) (by omega) ?_
        rw [show sumI (fun c => hT (196 + 19) (7 * g + c)) 0 (7 : Int).toNat = sumI (zgt (zput z (fu_ (z 1) (8 + z 7 g) 0)) g) 0 7 from sumI_congr _ _ (fun i i0 i1 => (RT.1 g i (by omega) g2 (by omega) (by omega)).2)]
        refine s_istore_n dX9_ifHeld_77 (by decide) rfl (L' := [_, _, _]) rfl ?_
        refine s_aload_n dX9_ifHeld_78 rfl ?_
        refine s_callV (d' := d - 1) (bc' := 0) (bs' := 0) (as := []) dX9_ifHeld_79 vf_X9_442 (dd_ (by omega) (by decide)) ⟨Nat.zero_le _, Nat.zero_le _⟩ rfl rfl (Nat.le_of_ble_eq_true rfl) kl_7 rfl io_196 ?_
        refine c_X9_putsBack gT (fun hB gB fB eB => ?_)
        have hG6 := gB
        have sE := sup_end M f1 e1 (fun x y c => hs_ne _ (by omega)) fT gB fB eB
        have M := sE.1
        have fm := fm.tr sE.2.1
        have th := sE.2.2.trans th
        refine s_iload_n dX9_ifHeld_82 rfl ?_
        exact s_ireturn dX9_ifHeld_83 rfl (k (by omega) (by omega) (by omega) _ M fm th)
      · exact absurd c4 (by decide)
  · have c1 := b01_0.mp c1
    refine s_iconst dX9_ifHeld_9 ?_
    refine s_goto (tgt := 28) dX9_ifHeld_10 (by decide) ?_
    refine s_putiG 0 dX9_ifHeld_28 fl_X9_98 kl_7 (by decide) rfl rfl io_196 (z := 0) rfl (by decide +kernel) hG (by first | exact hG.2 _ _ | exact b01_in _ | assumption | exact ⟨by omega, by omega⟩) (fun hG7 => ?_)
    obtain ⟨M, fm, th⟩ := mr_th M hG7
    refine s_aload_n dX9_ifHeld_31 rfl ?_
    refine s_geti dX9_ifHeld_32 fl_X9_98 kl_7 (by decide) rfl io_196 (z := 0) rfl ?_
    rw [th]
    refine s_if_le (tgt := 40) dX9_ifHeld_35 (by decide) (by first | exact hG7.2 _ _ | exact hG.2 _ _ | exact b01_in _ | assumption | exact ⟨by omega, by omega⟩) (fun c5 => ?_) (fun c5 => ?_)
    · exact absurd c5 (by decide)
    · refine s_iconst dX9_ifHeld_38 ?_
      exact s_ireturn dX9_ifHeld_39 rfl (k1 (by omega) _ M fm th)
set_option maxRecDepth 100000 in
set_option maxHeartbeats 4000000 in
theorem c_X9_ifSold {p t v e : Int} (hd : 11 ≤ d) (M : MR_ h z) (hp : inI p) (ht : inI t) (hv : inI v) (he : inI e) (k : 0 ≤ p → p < z 0 1 → 0 ≤ t → t < z 0 0 → (1 ≤ v ∧ v ≤ 9999 ∧ 0 ≤ e ∧ e ≤ v) → z 1 (8 + t) = 0 → z 1 56 + v - e ≤ 99999 → MK_ Q h z 0 (zta (zput z (fsold (z 1) t v e)) p)) (k1 : ¬ ((0 ≤ p ∧ p < z 0 1) ∧ 0 ≤ t ∧ t < z 0 0) → MK_ Q h z 1 0) (k2 : 0 ≤ p → p < z 0 1 → 0 ≤ t → t < z 0 0 → ¬ (1 ≤ v ∧ v ≤ 9999 ∧ 0 ≤ e ∧ e ≤ v) → MK_ Q h z 2 0) (k3 : 0 ≤ p → p < z 0 1 → 0 ≤ t → t < z 0 0 → (1 ≤ v ∧ v ≤ 9999 ∧ 0 ≤ e ∧ e ≤ v) → ¬ (z 1 (8 + t) = 0 ∧ z 1 56 + v - e ≤ 99999) → MK_ Q h z 3 0) : Cl_ yX9_ifSold MX9_ifSold d bc bs [(2, 196), (0, p), (0, t), (0, v), (0, e)] nN h Q := by
  refine s_enter pn_X9 rfl (Nat.le_of_ble_eq_true rfl) (L := [(2, _), (0, _), (0, _), (0, _), (0, _), (9, 0)]) rfl ?_
  have hG := M.1
  have I := mr_i M
  have hT := I.2.1
  have hP := I.2.2.1
  have hN := I.2.2.2.1
  have nn := M.2.1
  refine s_aload_n dX9_ifSold_0 rfl ?_
  refine s_aload_n dX9_ifSold_1 rfl ?_
  refine s_iload_n dX9_ifSold_2 rfl ?_
  refine s_callV (d' := d - 1) (bc' := 0) (bs' := 0) (as := [_]) dX9_ifSold_3 vf_X9_290 (dd_ (by omega) (by decide)) ⟨Nat.zero_le _, Nat.zero_le _⟩ rfl rfl (Nat.le_of_ble_eq_true rfl) kl_7 rfl io_196 ?_
  refine c_X9_isPerson (by omega) M hp ?_
  refine s_if_eq (tgt := 28) dX9_ifSold_6 (by decide) (by first | exact hG.2 _ _ | exact b01_in _ | assumption | exact ⟨by omega, by omega⟩) (fun c1 => ?_) (fun c1 => ?_)
  · have c1 := b01_0.mp c1
    refine s_iconst dX9_ifSold_28 ?_
    refine s_putiG 0 dX9_ifSold_29 fl_X9_98 kl_7 (by decide) rfl rfl io_196 (z := 0) rfl (by decide +kernel) hG (by first | exact hG.2 _ _ | exact b01_in _ | assumption | exact ⟨by omega, by omega⟩) (fun hG1 => ?_)
    obtain ⟨M, fm, th⟩ := mr_th M hG1
    refine s_aload_n dX9_ifSold_32 rfl ?_
    refine s_geti dX9_ifSold_33 fl_X9_98 kl_7 (by decide) rfl io_196 (z := 0) rfl ?_
    rw [th]
    refine s_if_le (tgt := 41) dX9_ifSold_36 (by decide) (by first | exact hG1.2 _ _ | exact hG.2 _ _ | exact b01_in _ | assumption | exact ⟨by omega, by omega⟩) (fun c2 => ?_) (fun c2 => ?_)
    · exact absurd c2 (by decide)
    · refine s_iconst dX9_ifSold_39 ?_
      exact s_ireturn dX9_ifSold_40 rfl (k1 (by omega) _ M fm th)
  · have c1 := b01_n.mp c1
    refine s_aload_n dX9_ifSold_9 rfl ?_
    refine s_iload_n dX9_ifSold_10 rfl ?_
    refine s_callV (d' := d - 1) (bc' := 0) (bs' := 0) (as := [_]) dX9_ifSold_11 vf_X9_294 (dd_ (by omega) (by decide)) ⟨Nat.zero_le _, Nat.zero_le _⟩ rfl rfl (Nat.le_of_ble_eq_true rfl) kl_7 rfl io_196 ?_
    refine c_X9_isThing (by omega) M ht ?_
    refine s_if_eq (tgt := 28) dX9_ifSold_14 (by decide) (by first | exact hG.2 _ _ | exact b01_in _ | assumption | exact ⟨by omega, by omega⟩) (fun c3 => ?_) (fun c3 => ?_)
    · have c3 := b01_0.mp c3
      refine s_iconst dX9_ifSold_28 ?_
      refine s_putiG 0 dX9_ifSold_29 fl_X9_98 kl_7 (by decide) rfl rfl io_196 (z := 0) rfl (by decide +kernel) hG (by first | exact hG.2 _ _ | exact b01_in _ | assumption | exact ⟨by omega, by omega⟩) (fun hG2 => ?_)
      obtain ⟨M, fm, th⟩ := mr_th M hG2
      refine s_aload_n dX9_ifSold_32 rfl ?_
      refine s_geti dX9_ifSold_33 fl_X9_98 kl_7 (by decide) rfl io_196 (z := 0) rfl ?_
      rw [th]
      refine s_if_le (tgt := 41) dX9_ifSold_36 (by decide) (by first | exact hG2.2 _ _ | exact hG.2 _ _ | exact b01_in _ | assumption | exact ⟨by omega, by omega⟩) (fun c4 => ?_) (fun c4 => ?_)
      · exact absurd c4 (by decide)
      · refine s_iconst dX9_ifSold_39 ?_
        exact s_ireturn dX9_ifSold_40 rfl (k1 (by omega) _ M fm th)
    · have c3 := b01_n.mp c3
      refine s_aload_n dX9_ifSold_17 rfl ?_
      refine s_iload_n dX9_ifSold_18 rfl ?_
      refine s_iload_n dX9_ifSold_19 rfl ?_
      refine s_iload dX9_ifSold_20 rfl ?_
      
      refine s_callV (d' := d - 1) (bc' := 0) (bs' := 0) (as := [_, _, _]) dX9_ifSold_22 vf_X9_330 (dd_ (by omega) (by decide)) ⟨Nat.zero_le _, Nat.zero_le _⟩ rfl rfl (Nat.le_of_ble_eq_true rfl) kl_7 rfl io_196 ?_
      refine c_X9_whyNotSold (by omega) M (by omega) (by omega) hv he (fun w1 w2 => ?_) (fun w1 => ?_) (fun w1 w2 => ?_)
      · refine s_goto (tgt := 29) dX9_ifSold_25 (by decide) ?_
        refine s_putiG 0 dX9_ifSold_29 fl_X9_98 kl_7 (by decide) rfl rfl io_196 (z := 0) rfl (by decide +kernel) hG (by first | exact hG.2 _ _ | exact b01_in _ | assumption | exact ⟨by omega, by omega⟩) (fun hG1 => ?_)
        obtain ⟨M, fm, th⟩ := mr_th M hG1
        refine s_aload_n dX9_ifSold_32 rfl ?_
        refine s_geti dX9_ifSold_33 fl_X9_98 kl_7 (by decide) rfl io_196 (z := 0) rfl ?_
        rw [th]
        refine s_if_le (tgt := 41) dX9_ifSold_36 (by decide) (by first | exact hG1.2 _ _ | exact hG.2 _ _ | exact b01_in _ | assumption | exact ⟨by omega, by omega⟩) (fun c1 => ?_) (fun c1 => ?_)
        · refine s_aload_n dX9_ifSold_41 rfl ?_
          refine s_callV (d' := d - 1) (bc' := 0) (bs' := 0) (as := []) dX9_ifSold_42 vf_X9_439 (dd_ (by omega) (by decide)) ⟨Nat.zero_le _, Nat.zero_le _⟩ rfl rfl (Nat.le_of_ble_eq_true rfl) kl_7 rfl io_196 ?_
          refine c_X9_begins M.1 (fun h1 g1 f1 e1 => ?_)
          have hG2 := g1
          have M1 : MR_ h1 z := mr_to M g1 (fun x y a => f1 x y (by unfold pc_ at a; omega))
          refine s_aload_n dX9_ifSold_45 rfl ?_
          refine s_iload_n dX9_ifSold_46 rfl ?_
          refine s_iload_n dX9_ifSold_47 rfl ?_
          refine s_iload dX9_ifSold_48 rfl ?_
          refine s_callV (d' := d - 1) (bc' := 0) (bs' := 0) (as := [_, _, _]) dX9_ifSold_50 vf_X9_337 (dd_ (by omega) (by decide)) ⟨Nat.zero_le _, Nat.zero_le _⟩ rfl rfl (Nat.le_of_ble_eq_true rfl) kl_7 rfl io_196 ?_
          refine c2_X9_sells M1 (by omega) (by omega) w1.1 w1.2.1 w1.2.2.1 w1.2.2.2 (by omega) (fun h2 M2 f2 => ?_)
          have hG3 := M2.1
          refine s_aload_n dX9_ifSold_53 rfl ?_
          refine s_iload_n dX9_ifSold_54 rfl ?_
          refine s_callV (d' := d - 1) (bc' := 0) (bs' := 0) (as := [_]) dX9_ifSold_55 vf_X9_433 (dd_ (by omega) (by decide)) ⟨Nat.zero_le _, Nat.zero_le _⟩ rfl rfl (Nat.le_of_ble_eq_true rfl) kl_7 rfl io_196 ?_
          have p2 : p < zput z (fsold (z 1) t v e) 0 1 := by rw [zput_ne (by omega)]; omega
          refine c_X9_takesAllOf (by omega) M2 (by omega) p2 (fun hT gT fT RT => ?_)
          have hG4 := gT
          refine s_istore dX9_ifSold_58 (by decide) rfl (L' := [_, _, _, _, _, _]) rfl ?_
          refine s_aload_n dX9_ifSold_60 rfl ?_
          refine s_callV (d' := d - 1) (bc' := 0) (bs' := 0) (as := []) dX9_ifSold_61 vf_X9_442 (dd_ (by omega) (by decide)) ⟨Nat.zero_le _, Nat.zero_le _⟩ rfl rfl (Nat.le_of_ble_eq_true rfl) kl_7 rfl io_196 ?_
          refine c_X9_putsBack gT (fun hB gB fB eB => ?_)
          have hG5 := gB
          have sE := sup_end M f1 e1 (f2) fT gB fB eB
          have M := sE.1
          have fm := fm.tr sE.2.1
          have th := sE.2.2.trans th
          refine s_iload dX9_ifSold_64 rfl ?_
          exact s_ireturn dX9_ifSold_66 rfl (k (by omega) (by omega) (by omega) (by omega) w1 w2.1 (by omega) _ M fm th)
        · exact absurd c1 (by decide)
      · refine s_goto (tgt := 29) dX9_ifSold_25 (by decide) ?_
        refine s_putiG 0 dX9_ifSold_29 fl_X9_98 kl_7 (by decide) rfl rfl io_196 (z := 0) rfl (by decide +kernel) hG (by first | exact hG.2 _ _ | exact b01_in _ | assumption | exact ⟨by omega, by omega⟩) (fun hG1 => ?_)
        obtain ⟨M, fm, th⟩ := mr_th M hG1
        refine s_aload_n dX9_ifSold_32 rfl ?_
        refine s_geti dX9_ifSold_33 fl_X9_98 kl_7 (by decide) rfl io_196 (z := 0) rfl ?_
        rw [th]
        refine s_if_le (tgt := 41) dX9_ifSold_36 (by decide) (by first | exact hG1.2 _ _ | exact hG.2 _ _ | exact b01_in _ | assumption | exact ⟨by omega, by omega⟩) (fun c1 => ?_) (fun c1 => ?_)
        · exact absurd c1 (by decide)
        · refine s_iconst dX9_ifSold_39 ?_
          exact s_ireturn dX9_ifSold_40 rfl (k2 (by omega) (by omega) (by omega) (by omega) w1 _ M fm th)
      · refine s_goto (tgt := 29) dX9_ifSold_25 (by decide) ?_
        refine s_putiG 0 dX9_ifSold_29 fl_X9_98 kl_7 (by decide) rfl rfl io_196 (z := 0) rfl (by decide +kernel) hG (by first | exact hG.2 _ _ | exact b01_in _ | assumption | exact ⟨by omega, by omega⟩) (fun hG1 => ?_)
        obtain ⟨M, fm, th⟩ := mr_th M hG1
        refine s_aload_n dX9_ifSold_32 rfl ?_
        refine s_geti dX9_ifSold_33 fl_X9_98 kl_7 (by decide) rfl io_196 (z := 0) rfl ?_
        rw [th]
        refine s_if_le (tgt := 41) dX9_ifSold_36 (by decide) (by first | exact hG1.2 _ _ | exact hG.2 _ _ | exact b01_in _ | assumption | exact ⟨by omega, by omega⟩) (fun c1 => ?_) (fun c1 => ?_)
        · exact absurd c1 (by decide)
        · refine s_iconst dX9_ifSold_39 ?_
          exact s_ireturn dX9_ifSold_40 rfl (k3 (by omega) (by omega) (by omega) (by omega) w1 w2 _ M fm th)
set_option maxRecDepth 100000 in
set_option maxHeartbeats 4000000 in
theorem lp_X9_envied {p : Int} (hd : 12 ≤ d) (p0 : 0 ≤ p) (p1 : p < z 0 1) (k : MK_ Q h0 z 0 (zenv z p)) : ∀ (m : Nat) (i b v : Int) (h : PH), (0 ≤ i) → (i + m = z 0 1) → (-1 ≤ v ∧ v ≤ 100000000) → (zenv z p = ev_ (fun q => q = p ∨ ¬ z 1 (32 + q) = 0) (zifd z p) m i b v) → (MR_ h z) → (FM h0 h) → (h 196 0 = 0) → S_ MX9_envied d bc bs Q 33 [(2, 196), (0, p), (0, b), (0, v), (0, i), (9, 0)] [] nN h := by
  intro m
  induction m with
  | zero =>
    intro i b v h i0 im vb hk M fm th
    have hG := M.1
    have I := mr_i M
    have hT := I.2.1
    have hP := I.2.2.1
    have hN := I.2.2.2.1
    have nn := M.2.1
    have ed : zdd z i = z 1 (32 + i) := rfl
    have tb : i < z 0 1 → 0 ≤ zifd z p i ∧ zifd z p i ≤ 96000000 := fun c => by
      have zp : ZI (zput z (fu_ (z 1) (32 + i) 1)) := zi_put I (zf_fu (zf_z.mp I.1) (by unfold zok; omega))
      exact zta_bd zp (p := p) p0 (by rw [zput_ne (by omega)]; exact p1)
    refine s_iload dX9_envied_33 rfl ?_
    refine s_aload_n dX9_envied_35 rfl ?_
    refine s_geti dX9_envied_36 fl_X9_281 kl_7 (by decide) rfl io_196 (z := 6) rfl ?_
    refine s_icmp_ge (tgt := 87) dX9_envied_39 (by decide) (by first | exact hG.2 _ _ | exact b01_in _ | assumption | exact ⟨by omega, by omega⟩) (by first | exact hG.2 _ _ | exact b01_in _ | assumption | exact ⟨by omega, by omega⟩) (fun c1 => ?_) (fun c1 => ?_)
    · refine s_iload_n dX9_envied_87 rfl ?_
      exact s_ireturn dX9_envied_88 rfl (q_val hk (k _ M fm th))
    · exact absurd c1 (by omega)
  | succ m ih =>
    intro i b v h i0 im vb hk M fm th
    have hG := M.1
    have I := mr_i M
    have hT := I.2.1
    have hP := I.2.2.1
    have hN := I.2.2.2.1
    have nn := M.2.1
    have ed : zdd z i = z 1 (32 + i) := rfl
    have tb : i < z 0 1 → 0 ≤ zifd z p i ∧ zifd z p i ≤ 96000000 := fun c => by
      have zp : ZI (zput z (fu_ (z 1) (32 + i) 1)) := zi_put I (zf_fu (zf_z.mp I.1) (by unfold zok; omega))
      exact zta_bd zp (p := p) p0 (by rw [zput_ne (by omega)]; exact p1)
    refine s_iload dX9_envied_33 rfl ?_
    refine s_aload_n dX9_envied_35 rfl ?_
    refine s_geti dX9_envied_36 fl_X9_281 kl_7 (by decide) rfl io_196 (z := 6) rfl ?_
    refine s_icmp_ge (tgt := 87) dX9_envied_39 (by decide) (by first | exact hG.2 _ _ | exact b01_in _ | assumption | exact ⟨by omega, by omega⟩) (by first | exact hG.2 _ _ | exact b01_in _ | assumption | exact ⟨by omega, by omega⟩) (fun c1 => ?_) (fun c1 => ?_)
    · exact absurd c1 (by omega)
    · refine s_iload dX9_envied_42 rfl ?_
      refine s_iload_n dX9_envied_44 rfl ?_
      refine s_icmp_eq (tgt := 81) dX9_envied_45 (by decide) (by first | exact hG.2 _ _ | exact b01_in _ | assumption | exact ⟨by omega, by omega⟩) (by first | exact hG.2 _ _ | exact b01_in _ | assumption | exact ⟨by omega, by omega⟩) (fun c2 => ?_) (fun c2 => ?_)
      · refine s_iinc dX9_envied_81 rfl (by decide) rfl (L' := [_, _, _, _, _, _]) rfl ?_
        refine s_goto (tgt := 33) dX9_envied_84 (by decide) ?_
        refine s_fg (L' := [(2, 196), (0, p), (0, b), (0, v), (0, i + 1), (9, 0)]) ⟨Or.inr rfl, Or.inr rfl, Or.inr rfl, Or.inr rfl, Or.inr rfl, Or.inl rfl, trivial⟩ ?_
        first
          | exact ih (i + 1) b v _ (by omega) (by omega) (by omega) (hk.trans (ev_s (sk := (fun q => q = p ∨ ¬ z 1 (32 + q) = 0)) (Or.inl (by omega)))) M fm th
          | exact ih (i + 1) b v _ (by omega) (by omega) (by omega) (hk.trans (ev_s (sk := (fun q => q = p ∨ ¬ z 1 (32 + q) = 0)) (Or.inr (by omega)))) M fm th
          | exact ih (i + 1) b v _ (by omega) (by omega) (by omega) (hk.trans (ev_f (sk := (fun q => q = p ∨ ¬ z 1 (32 + q) = 0)) (fun q => by rcases q with q | q <;> omega) (by omega))) M fm th
      · refine s_aload_n dX9_envied_48 rfl ?_
        refine s_iload dX9_envied_49 rfl ?_
        refine s_callV (d' := d - 1) (bc' := 0) (bs' := 0) (as := [_]) dX9_envied_51 vf_X9_308 (dd_ (by omega) (by decide)) ⟨Nat.zero_le _, Nat.zero_le _⟩ rfl rfl (Nat.le_of_ble_eq_true rfl) kl_7 rfl io_196 ?_
        refine c_X9_isDead M i0 (by omega) ?_
        refine s_if_eq (tgt := 60) dX9_envied_54 (by decide) (by first | exact hG.2 _ _ | exact b01_in _ | assumption | exact ⟨by omega, by omega⟩) (fun c3 => ?_) (fun c3 => ?_)
        · have c3 := b01_0.mp c3
          refine s_aload_n dX9_envied_60 rfl ?_
          refine s_iload_n dX9_envied_61 rfl ?_
          refine s_iload dX9_envied_62 rfl ?_
          refine s_callV (d' := d - 1) (bc' := 0) (bs' := 0) (as := [_, _]) dX9_envied_64 vf_X9_445 (dd_ (by omega) (by decide)) ⟨Nat.zero_le _, Nat.zero_le _⟩ rfl rfl (Nat.le_of_ble_eq_true rfl) kl_7 rfl io_196 ?_
          have tb := tb (by omega)
          refine c_X9_hadDied (by omega) M p0 p1 i0 (by omega) (fun hhG1 MhG1 fhG1 thG1 => ?_)
          have hG1 := MhG1.1
          have M := MhG1
          have fm := fm.tr fhG1
          have th := thG1.trans th
          refine s_istore dX9_envied_67 (by decide) rfl (L' := [_, _, _, _, _, _]) rfl ?_
          refine s_iload dX9_envied_69 rfl ?_
          refine s_iload_n dX9_envied_71 rfl ?_
          refine s_icmp_le (tgt := 81) dX9_envied_72 (by decide) (by first | exact hG1.2 _ _ | exact hG.2 _ _ | exact b01_in _ | assumption | exact ⟨by omega, by omega⟩) (by first | exact hG1.2 _ _ | exact hG.2 _ _ | exact b01_in _ | assumption | exact ⟨by omega, by omega⟩) (fun c4 => ?_) (fun c4 => ?_)
          · refine s_iinc dX9_envied_81 rfl (by decide) rfl (L' := [_, _, _, _, _, _]) rfl ?_
            refine s_goto (tgt := 33) dX9_envied_84 (by decide) ?_
            refine s_fg (L' := [(2, 196), (0, p), (0, b), (0, v), (0, i + 1), (9, 0)]) ⟨Or.inr rfl, Or.inr rfl, Or.inr rfl, Or.inr rfl, Or.inr rfl, Or.inl rfl, trivial⟩ ?_
            first
              | exact ih (i + 1) b v _ (by omega) (by omega) (by omega) (hk.trans (ev_s (sk := (fun q => q = p ∨ ¬ z 1 (32 + q) = 0)) (Or.inl (by omega)))) M fm th
              | exact ih (i + 1) b v _ (by omega) (by omega) (by omega) (hk.trans (ev_s (sk := (fun q => q = p ∨ ¬ z 1 (32 + q) = 0)) (Or.inr (by omega)))) M fm th
              | exact ih (i + 1) b v _ (by omega) (by omega) (by omega) (hk.trans (ev_f (sk := (fun q => q = p ∨ ¬ z 1 (32 + q) = 0)) (fun q => by rcases q with q | q <;> omega) (by omega))) M fm th
          · refine s_iload dX9_envied_75 rfl ?_
            refine s_istore_n dX9_envied_77 (by decide) rfl (L' := [_, _, _, _, _, _]) rfl ?_
            refine s_iload dX9_envied_78 rfl ?_
            refine s_istore_n dX9_envied_80 (by decide) rfl (L' := [_, _, _, _, _, _]) rfl ?_
            refine s_iinc dX9_envied_81 rfl (by decide) rfl (L' := [_, _, _, _, _, _]) rfl ?_
            refine s_goto (tgt := 33) dX9_envied_84 (by decide) ?_
            refine s_fg (L' := [(2, 196), (0, p), (0, i), (0, zifd z p i), (0, i + 1), (9, 0)]) ⟨Or.inr rfl, Or.inr rfl, Or.inr rfl, Or.inr rfl, Or.inr rfl, Or.inl rfl, trivial⟩ ?_
            exact ih (i + 1) i (zifd z p i) _ (by omega) (by omega) (by omega) (hk.trans (ev_t (sk := (fun q => q = p ∨ ¬ z 1 (32 + q) = 0)) (fun q => by rcases q with q | q <;> omega) (by omega))) M fm th
        · have c3 := b01_n.mp c3
          refine s_goto (tgt := 81) dX9_envied_57 (by decide) ?_
          refine s_iinc dX9_envied_81 rfl (by decide) rfl (L' := [_, _, _, _, _, _]) rfl ?_
          refine s_goto (tgt := 33) dX9_envied_84 (by decide) ?_
          refine s_fg (L' := [(2, 196), (0, p), (0, b), (0, v), (0, i + 1), (9, 0)]) ⟨Or.inr rfl, Or.inr rfl, Or.inr rfl, Or.inr rfl, Or.inr rfl, Or.inl rfl, trivial⟩ ?_
          first
            | exact ih (i + 1) b v _ (by omega) (by omega) (by omega) (hk.trans (ev_s (sk := (fun q => q = p ∨ ¬ z 1 (32 + q) = 0)) (Or.inl (by omega)))) M fm th
            | exact ih (i + 1) b v _ (by omega) (by omega) (by omega) (hk.trans (ev_s (sk := (fun q => q = p ∨ ¬ z 1 (32 + q) = 0)) (Or.inr (by omega)))) M fm th
            | exact ih (i + 1) b v _ (by omega) (by omega) (by omega) (hk.trans (ev_f (sk := (fun q => q = p ∨ ¬ z 1 (32 + q) = 0)) (fun q => by rcases q with q | q <;> omega) (by omega))) M fm th
set_option maxRecDepth 100000 in
set_option maxHeartbeats 4000000 in
theorem c_X9_envied {p : Int} (hd : 12 ≤ d) (M : MR_ h z) (hp : inI p) (k : 0 ≤ p → p < z 0 1 → MK_ Q h z 0 (zenv z p)) (k1 : ¬ (0 ≤ p ∧ p < z 0 1) → MK_ Q h z 1 0) : Cl_ yX9_envied MX9_envied d bc bs [(2, 196), (0, p)] nN h Q := by
  refine s_enter pn_X9 rfl (Nat.le_of_ble_eq_true rfl) (L := [(2, _), (0, _), (9, 0), (9, 0), (9, 0), (9, 0)]) rfl ?_
  have hG := M.1
  have I := mr_i M
  have hT := I.2.1
  have hP := I.2.2.1
  have hN := I.2.2.2.1
  have nn := M.2.1
  refine s_aload_n dX9_envied_0 rfl ?_
  refine s_aload_n dX9_envied_1 rfl ?_
  refine s_iload_n dX9_envied_2 rfl ?_
  refine s_callV (d' := d - 1) (bc' := 0) (bs' := 0) (as := [_]) dX9_envied_3 vf_X9_290 (dd_ (by omega) (by decide)) ⟨Nat.zero_le _, Nat.zero_le _⟩ rfl rfl (Nat.le_of_ble_eq_true rfl) kl_7 rfl io_196 ?_
  refine c_X9_isPerson (by omega) M hp ?_
  refine s_if_eq (tgt := 13) dX9_envied_6 (by decide) (by first | exact hG.2 _ _ | exact b01_in _ | assumption | exact ⟨by omega, by omega⟩) (fun c1 => ?_) (fun c1 => ?_)
  · have c1 := b01_0.mp c1
    refine s_iconst dX9_envied_13 ?_
    refine s_putiG 0 dX9_envied_14 fl_X9_98 kl_7 (by decide) rfl rfl io_196 (z := 0) rfl (by decide +kernel) hG (by first | exact hG.2 _ _ | exact b01_in _ | assumption | exact ⟨by omega, by omega⟩) (fun hG1 => ?_)
    obtain ⟨M, fm, th⟩ := mr_th M hG1
    refine s_aload_n dX9_envied_17 rfl ?_
    refine s_geti dX9_envied_18 fl_X9_98 kl_7 (by decide) rfl io_196 (z := 0) rfl ?_
    rw [th]
    refine s_if_le (tgt := 26) dX9_envied_21 (by decide) (by first | exact hG1.2 _ _ | exact hG.2 _ _ | exact b01_in _ | assumption | exact ⟨by omega, by omega⟩) (fun c2 => ?_) (fun c2 => ?_)
    · exact absurd c2 (by decide)
    · refine s_iconst dX9_envied_24 ?_
      exact s_ireturn dX9_envied_25 rfl (k1 (by omega) _ M fm th)
  · have c1 := b01_n.mp c1
    refine s_iconst dX9_envied_9 ?_
    refine s_goto (tgt := 14) dX9_envied_10 (by decide) ?_
    refine s_putiG 0 dX9_envied_14 fl_X9_98 kl_7 (by decide) rfl rfl io_196 (z := 0) rfl (by decide +kernel) hG (by first | exact hG.2 _ _ | exact b01_in _ | assumption | exact ⟨by omega, by omega⟩) (fun hG2 => ?_)
    obtain ⟨M, fm, th⟩ := mr_th M hG2
    refine s_aload_n dX9_envied_17 rfl ?_
    refine s_geti dX9_envied_18 fl_X9_98 kl_7 (by decide) rfl io_196 (z := 0) rfl ?_
    rw [th]
    refine s_if_le (tgt := 26) dX9_envied_21 (by decide) (by first | exact hG2.2 _ _ | exact hG.2 _ _ | exact b01_in _ | assumption | exact ⟨by omega, by omega⟩) (fun c3 => ?_) (fun c3 => ?_)
    · refine s_iconst dX9_envied_26 ?_
      refine s_istore_n dX9_envied_27 (by decide) rfl (L' := [_, _, _, _, _, _]) rfl ?_
      refine s_iconst dX9_envied_28 ?_
      refine s_istore_n dX9_envied_29 (by decide) rfl (L' := [_, _, _, _, _, _]) rfl ?_
      refine s_iconst dX9_envied_30 ?_
      refine s_istore dX9_envied_31 (by decide) rfl (L' := [_, _, _, _, _, _]) rfl ?_
      exact lp_X9_envied (h0 := h) hd (by omega) (by omega) (k (by omega) (by omega)) (z 0 1).toNat 0 (-1) (-1) _ (Int.le_refl _) (by omega) (by omega) rfl M fm th
    · exact absurd c3 (by decide)
end X9M
