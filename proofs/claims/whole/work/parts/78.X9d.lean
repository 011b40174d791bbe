/-! the reference: acts -/
section X9D
variable {d bc bs : Nat} {Q : PQ} {h h0 z : PH}
set_option maxRecDepth 100000 in
set_option maxHeartbeats 4000000 in
theorem lp_X9_remA  (K : ∀ h : PH, G h → (∀ x y : Int, ¬ x = 196 + 3 → h x y = h0 x y) → (∀ j : Int, 0 ≤ j → j < 915 → h (196 + 3) j = h0 (196 + 3) (j + 61)) → ∀ k : Int, S_ MX9_remembers d bc bs Q 40 [(2, 196), (0, k)] [] nN h) : ∀ (m : Nat) (k : Int) (h : PH), (61 ≤ k) → (k + m = 976) → (G h) → (∀ x y : Int, ¬ x = 196 + 3 → h x y = h0 x y) → (∀ j : Int, 0 ≤ j → h (196 + 3) j = if j < k - 61 then h0 (196 + 3) (j + 61) else h0 (196 + 3) j) → S_ MX9_remembers d bc bs Q 12 [(2, 196), (0, k)] [] nN h := by
  intro m
  induction m with
  | zero =>
    intro k h k0 km gG fr H
    have hG := gG
    refine s_iload_n dX9_remembers_12 rfl ?_
    refine s_sipush dX9_remembers_13 (by decide) ?_
    refine s_icmp_ge (tgt := 40) dX9_remembers_16 (by decide) (by first | exact hG.2 _ _ | exact b01_in _ | assumption | exact ⟨by omega, by omega⟩) (by first | exact hG.2 _ _ | exact b01_in _ | assumption | exact ⟨by omega, by omega⟩) (fun c1 => ?_) (fun c1 => ?_)
    · exact K h gG fr (fun j j0 j1 => by rw [H j j0, if_pos (by omega)]) k
    · exact absurd c1 (by omega)
  | succ m ih =>
    intro k h k0 km gG fr H
    have hG := gG
    refine s_iload_n dX9_remembers_12 rfl ?_
    refine s_sipush dX9_remembers_13 (by decide) ?_
    refine s_icmp_ge (tgt := 40) dX9_remembers_16 (by decide) (by first | exact hG.2 _ _ | exact b01_in _ | assumption | exact ⟨by omega, by omega⟩) (by first | exact hG.2 _ _ | exact b01_in _ | assumption | exact ⟨by omega, by omega⟩) (fun c1 => ?_) (fun c1 => ?_)
    · exact absurd c1 (by omega)
    · refine s_aload_n dX9_remembers_19 rfl ?_
      refine s_getr dX9_remembers_20 fl_X9_16 kl_7 (by decide) rfl io_196 (z := 3) rfl (rf_7_3 hG.1 io_196) (rk_7_3 io_196).1 ?_
      refine s_iload_n dX9_remembers_23 rfl ?_
      refine s_bipush dX9_remembers_24 (by decide) ?_
      refine s_isub dX9_remembers_26 ?_
      refine s_aload_n dX9_remembers_27 rfl ?_
      refine s_getr dX9_remembers_28 fl_X9_16 kl_7 (by decide) rfl io_196 (z := 3) rfl (rf_7_3 hG.1 io_196) (rk_7_3 io_196).1 ?_
      refine s_iload_n dX9_remembers_31 rfl ?_
      refine s_iaload dX9_remembers_32 (rk_7_3 io_196) (by omega) (by omega) ?_
      refine s_iastoreG dX9_remembers_33 (rk_7_3 io_196) (by omega) (by omega) hG (by first | exact hG.2 _ _ | exact b01_in _ | assumption | exact ⟨by omega, by omega⟩) (fun hG1 => ?_)
      refine s_iinc dX9_remembers_34 rfl (by decide) rfl (L' := [_, _]) rfl ?_
      refine s_goto (tgt := 12) dX9_remembers_37 (by decide) ?_
      refine ih (k + 1) _ (by omega) (by omega) hG1 (fun x y hx => by rw [hs_ne _ (fun w => hx w.1)]; exact fr x y hx) (fun j j0 => ?_)
      by_cases c : j = k - 61
      · rw [c, hs_eq, H k (by omega), if_neg (by omega), if_pos (by omega), show k - 61 + 61 = k by omega]
      · rw [hs_ne _ (fun w => c w.2), H j j0]
        by_cases c3 : j < k - 61
        · rw [if_pos c3, if_pos (by omega)]
        · rw [if_neg c3, if_neg (by omega)]
set_option maxRecDepth 100000 in
set_option maxHeartbeats 4000000 in
theorem lp_X9_remB {a : Int} (a0 : 0 ≤ a) (a1 : a ≤ 15) (ea : h0 196 4 = a) (K : ∀ h : PH, G h → (∀ x y : Int, ¬ x = 196 + 3 → h x y = h0 x y) → (∀ j : Int, h (196 + 3) j = if 61 * a ≤ j ∧ j < 61 * a + 61 then h0 (196 + 1) (j - 61 * a) else h0 (196 + 3) j) → ∀ k : Int, S_ MX9_remembers d bc bs Q 84 [(2, 196), (0, k)] [] nN h) : ∀ (m : Nat) (k : Int) (h : PH), (0 ≤ k) → (k + m = 61) → (G h) → (∀ x y : Int, ¬ x = 196 + 3 → h x y = h0 x y) → (∀ j : Int, h (196 + 3) j = if 61 * a ≤ j ∧ j < 61 * a + k then h0 (196 + 1) (j - 61 * a) else h0 (196 + 3) j) → S_ MX9_remembers d bc bs Q 52 [(2, 196), (0, k)] [] nN h := by
  intro m
  induction m with
  | zero =>
    intro k h k0 km gG fr H
    have hG := gG
    have e4 : h 196 4 = a := (fr _ _ (by omega)).trans ea
    refine s_iload_n dX9_remembers_52 rfl ?_
    refine s_bipush dX9_remembers_53 (by decide) ?_
    refine s_icmp_ge (tgt := 84) dX9_remembers_55 (by decide) (by first | exact hG.2 _ _ | exact b01_in _ | assumption | exact ⟨by omega, by omega⟩) (by first | exact hG.2 _ _ | exact b01_in _ | assumption | exact ⟨by omega, by omega⟩) (fun c1 => ?_) (fun c1 => ?_)
    · have e61 : k = 61 := by omega
      rw [e61] at H
      exact K h gG fr H k
    · exact absurd c1 (by omega)
  | succ m ih =>
    intro k h k0 km gG fr H
    have hG := gG
    have e4 : h 196 4 = a := (fr _ _ (by omega)).trans ea
    refine s_iload_n dX9_remembers_52 rfl ?_
    refine s_bipush dX9_remembers_53 (by decide) ?_
    refine s_icmp_ge (tgt := 84) dX9_remembers_55 (by decide) (by first | exact hG.2 _ _ | exact b01_in _ | assumption | exact ⟨by omega, by omega⟩) (by first | exact hG.2 _ _ | exact b01_in _ | assumption | exact ⟨by omega, by omega⟩) (fun c1 => ?_) (fun c1 => ?_)
    · exact absurd c1 (by omega)
    · refine s_aload_n dX9_remembers_58 rfl ?_
      refine s_getr dX9_remembers_59 fl_X9_16 kl_7 (by decide) rfl io_196 (z := 3) rfl (rf_7_3 hG.1 io_196) (rk_7_3 io_196).1 ?_
      refine s_bipush dX9_remembers_62 (by decide) ?_
      refine s_aload_n dX9_remembers_64 rfl ?_
      refine s_geti dX9_remembers_65 fl_X9_284 kl_7 (by decide) rfl io_196 (z := 4) rfl ?_
      refine s_imul dX9_remembers_68 ?_
      refine s_iload_n dX9_remembers_69 rfl ?_
      refine s_iadd dX9_remembers_70 ?_
      refine s_aload_n dX9_remembers_71 rfl ?_
      refine s_getr dX9_remembers_72 fl_X9_7 kl_7 (by decide) rfl io_196 (z := 1) rfl (rf_7_1 hG.1 io_196) (rk_7_1 io_196).1 ?_
      refine s_iload_n dX9_remembers_75 rfl ?_
      refine s_iaload dX9_remembers_76 (rk_7_1 io_196) (by omega) (by omega) ?_
      refine s_iastoreG dX9_remembers_77 (rk_7_3 io_196) (by omega) (by omega) hG (by first | exact hG.2 _ _ | exact b01_in _ | assumption | exact ⟨by omega, by omega⟩) (fun hG1 => ?_)
      refine s_iinc dX9_remembers_78 rfl (by decide) rfl (L' := [_, _]) rfl ?_
      refine s_goto (tgt := 52) dX9_remembers_81 (by decide) ?_
      refine ih (k + 1) _ (by omega) (by omega) hG1 (fun x y hx => by rw [hs_ne _ (fun w => hx w.1)]; exact fr x y hx) (fun j => ?_)
      by_cases c : j = 61 * a + k
      · rw [c, e4, hs_eq, if_pos (by omega), fr _ _ (by omega), show 61 * a + k - 61 * a = k by omega]
      · rw [hs_ne _ (fun w => c (by omega)), H j]
        by_cases c3 : 61 * a ≤ j ∧ j < 61 * a + k
        · rw [if_pos c3, if_pos (by omega)]
        · rw [if_neg c3, if_neg (by omega)]
set_option maxRecDepth 100000 in
set_option maxHeartbeats 4000000 in
theorem c_X9_remembers  (M : MR_ h z) (k : ∀ h1 : PH, MR_ h1 (zkeep z) → FM h h1 → h1 196 0 = h 196 0 → Q.1 none nN h1) : Cl_ yX9_remembers MX9_remembers d bc bs [(2, 196)] nN h Q := by
  refine s_enter pn_X9 rfl (Nat.le_of_ble_eq_true rfl) (L := [(2, _), (9, 0)]) rfl ?_
  have hG := M.1
  have e4 := M.2.2.2.1.1
  have b53 := (mr_b M).2.2.2.2.2.1
  refine s_aload_n dX9_remembers_0 rfl ?_
  refine s_geti dX9_remembers_1 fl_X9_284 kl_7 (by decide) rfl io_196 (z := 4) rfl ?_
  refine s_bipush dX9_remembers_4 (by decide) ?_
  refine s_icmp_ne (tgt := 50) dX9_remembers_6 (by decide) (by first | exact hG.2 _ _ | exact b01_in _ | assumption | exact ⟨by omega, by omega⟩) (by first | exact hG.2 _ _ | exact b01_in _ | assumption | exact ⟨by omega, by omega⟩) (fun c1 => ?_) (fun c1 => ?_)
  · refine s_iconst dX9_remembers_50 ?_
    refine s_istore_n dX9_remembers_51 (by decide) rfl (L' := [_, _]) rfl ?_
    refine lp_X9_remB (a := z 53 0) (by omega) (by omega) e4 (fun h2 g2 f2 r2 k9 => ?_) 61 0 _ (Int.le_refl _) (by omega) hG (fun _ _ _ => rfl) (fun j => by rw [if_neg (by omega)])
    have hG := g2
    have e42 : h2 196 4 = z 53 0 := (f2 _ _ (by omega)).trans e4
    refine s_aload_n dX9_remembers_84 rfl ?_
    refine s_dup dX9_remembers_85 rfl ?_
    refine s_geti dX9_remembers_86 fl_X9_284 kl_7 (by decide) rfl io_196 (z := 4) rfl ?_
    refine s_iconst dX9_remembers_89 ?_
    refine s_iadd dX9_remembers_90 ?_
    refine s_putiG 4 dX9_remembers_91 fl_X9_284 kl_7 (by decide) rfl rfl io_196 (z := 4) rfl (by decide +kernel) hG (by first | exact hG.2 _ _ | exact b01_in _ | assumption | exact ⟨by omega, by omega⟩) (fun hG1 => ?_)
    exact s_return dX9_remembers_94 rfl (k _ (mr_keep M hG1 (fun x y a b => by rw [hs_ne _ b]; exact f2 x y a) (by rw [hs_eq, e42]; omega) (fun j k j0 j1 k0 k1 => by
      rw [hs_ne _ (by omega), r2, if_neg (show ¬ z 53 0 = 16 by omega)]
      by_cases q : j = z 53 0
      · rw [if_pos (by omega), if_pos q, show 61 * j + k - 61 * z 53 0 = k by omega]
      · rw [if_neg (by omega), if_neg q])) (fun x y hx => by rw [hs_ne _ (by omega)]; exact f2 x y (by omega)) (by rw [hs_ne _ (by omega)]; exact f2 _ _ (by omega)))
  · refine s_bipush dX9_remembers_9 (by decide) ?_
    refine s_istore_n dX9_remembers_11 (by decide) rfl (L' := [_, _]) rfl ?_
    refine lp_X9_remA (fun h1 g1 f1 r1 k8 => ?_) 915 61 h (by omega) (by omega) hG (fun _ _ _ => rfl) (fun j j0 => by rw [if_neg (by omega)])
    have hG := g1
    have e41 : h1 196 4 = z 53 0 := (f1 _ _ (by omega)).trans e4
    refine s_aload_n dX9_remembers_40 rfl ?_
    refine s_dup dX9_remembers_41 rfl ?_
    refine s_geti dX9_remembers_42 fl_X9_284 kl_7 (by decide) rfl io_196 (z := 4) rfl ?_
    refine s_iconst dX9_remembers_45 ?_
    refine s_isub dX9_remembers_46 ?_
    refine s_putiG 4 dX9_remembers_47 fl_X9_284 kl_7 (by decide) rfl rfl io_196 (z := 4) rfl (by decide +kernel) hG (by first | exact hG.2 _ _ | exact b01_in _ | assumption | exact ⟨by omega, by omega⟩) (fun hG1 => ?_)
    refine s_iconst dX9_remembers_50 ?_
    refine s_istore_n dX9_remembers_51 (by decide) rfl (L' := [_, _]) rfl ?_
    have e4b : hs_ h1 196 4 (h1 196 4 - 1) 196 4 = 15 := by rw [hs_eq, e41]; omega
    refine lp_X9_remB (a := 15) (by omega) (by omega) e4b (fun h2 g2 f2 r2 k9 => ?_) 61 0 _ (Int.le_refl _) (by omega) hG1 (fun _ _ _ => rfl) (fun j => by rw [if_neg (by omega)])
    have hG := g2
    have e42 : h2 196 4 = 15 := (f2 _ _ (by omega)).trans e4b
    refine s_aload_n dX9_remembers_84 rfl ?_
    refine s_dup dX9_remembers_85 rfl ?_
    refine s_geti dX9_remembers_86 fl_X9_284 kl_7 (by decide) rfl io_196 (z := 4) rfl ?_
    refine s_iconst dX9_remembers_89 ?_
    refine s_iadd dX9_remembers_90 ?_
    refine s_putiG 4 dX9_remembers_91 fl_X9_284 kl_7 (by decide) rfl rfl io_196 (z := 4) rfl (by decide +kernel) hG (by first | exact hG.2 _ _ | exact b01_in _ | assumption | exact ⟨by omega, by omega⟩) (fun hG1 => ?_)
    exact s_return dX9_remembers_94 rfl (k _ (mr_keep M hG1 (fun x y a b => by rw [hs_ne _ b, f2 x y a, hs_ne _ b]; exact f1 x y a) (by rw [hs_eq, e42]; omega) (fun j k j0 j1 k0 k1 => by
      rw [hs_ne _ (by omega), r2, if_pos (show z 53 0 = 16 by omega)]
      by_cases q : j = 15
      · rw [if_pos (by omega), if_pos q, show 61 * j + k - 61 * 15 = k by omega, hs_ne _ (by omega)]
        exact f1 _ _ (by omega)
      · rw [if_neg (by omega), if_neg q, hs_ne _ (by omega), r1 _ (by omega) (by omega), show 61 * j + k + 61 = 61 * (j + 1) + k by omega])) (fun x y hx => by rw [hs_ne _ (by omega), f2 x y (by omega), hs_ne _ (by omega)]; exact f1 x y (by omega)) (by rw [hs_ne _ (by omega), f2 _ _ (by omega), hs_ne _ (by omega)]; exact f1 _ _ (by omega)))
theorem fsold_eq {F : Int → Int} {t p v : Int} (t0 : 0 ≤ t) (t1 : t < 8) : fu_ (fu_ (fu_ (fu_ F 56 (F 56 + (p - v))) (8 + t) 1) (16 + t) p) (24 + t) v = fsold F t p v := by
  funext x
  unfold fsold fu_
  by_cases c : x = 56
  · rw [if_neg (by omega), if_neg (by omega), if_neg (by omega), if_pos c, if_pos c]
  · rw [if_neg c, if_neg c]
set_option maxRecDepth 100000 in
set_option maxHeartbeats 4000000 in
theorem c_X9_sells {t p v : Int} (M : MR_ h z) (t0 : 0 ≤ t) (t1 : t < 8) (p0 : 1 ≤ p) (p1 : p ≤ 9999) (v0 : 0 ≤ v) (v1 : v ≤ p) (hc : z 1 56 + p - v ≤ 99999) (k : ∀ h1 : PH, MR_ h1 (zput z (fsold (z 1) t p v)) → FM h h1 → h1 196 0 = h 196 0 → Q.1 none nN h1) : Cl_ yX9_sells MX9_sells d bc bs [(2, 196), (0, t), (0, p), (0, v)] nN h Q := by
  refine s_enter pn_X9 rfl (Nat.le_of_ble_eq_true rfl) (L := [(2, _), (0, _), (0, _), (0, _)]) rfl ?_
  have hG := M.1
  have b56 := (mr_i M).1.2.2.1
  have e56 := mr_f M 56 (by omega) (by omega)
  rw [pm_h (by omega)] at e56
  refine s_aload_n dX9_sells_0 rfl ?_
  refine s_getr dX9_sells_1 fl_X9_7 kl_7 (by decide) rfl io_196 (z := 1) rfl (rf_7_1 hG.1 io_196) (rk_7_1 io_196).1 ?_
  refine s_bipush dX9_sells_4 (by decide) ?_
  refine s_dup2 dX9_sells_6 rfl rfl ?_
  refine s_iaload dX9_sells_7 (rk_7_1 io_196) (by omega) (by omega) ?_
  refine s_iload_n dX9_sells_8 rfl ?_
  refine s_iload_n dX9_sells_9 rfl ?_
  refine s_isub dX9_sells_10 ?_
  refine s_iadd dX9_sells_11 ?_
  refine s_iastoreG dX9_sells_12 (rk_7_1 io_196) (by omega) (by omega) hG (by first | exact hG.2 _ _ | exact b01_in _ | assumption | exact ⟨by omega, by omega⟩) (fun hG1 => ?_)
  refine s_aload_n dX9_sells_13 rfl ?_
  refine s_getr dX9_sells_14 fl_X9_7 kl_7 (by decide) rfl io_196 (z := 1) rfl (rf_7_1 hG1.1 io_196) (rk_7_1 io_196).1 ?_
  refine s_iconst dX9_sells_17 ?_
  refine s_iconst dX9_sells_18 ?_
  refine s_iload_n dX9_sells_19 rfl ?_
  refine s_imul dX9_sells_20 ?_
  refine s_iadd dX9_sells_21 ?_
  refine s_iconst dX9_sells_22 ?_
  refine s_iadd dX9_sells_23 ?_
  refine s_iconst dX9_sells_24 ?_
  refine s_iastoreG dX9_sells_25 (rk_7_1 io_196) (by omega) (by omega) hG1 (by first | exact hG1.2 _ _ | exact hG.2 _ _ | exact b01_in _ | assumption | exact ⟨by omega, by omega⟩) (fun hG2 => ?_)
  refine s_aload_n dX9_sells_26 rfl ?_
  refine s_getr dX9_sells_27 fl_X9_7 kl_7 (by decide) rfl io_196 (z := 1) rfl (rf_7_1 hG2.1 io_196) (rk_7_1 io_196).1 ?_
  refine s_iconst dX9_sells_30 ?_
  refine s_iconst dX9_sells_31 ?_
  refine s_iload_n dX9_sells_32 rfl ?_
  refine s_imul dX9_sells_33 ?_
  refine s_iadd dX9_sells_34 ?_
  refine s_iconst dX9_sells_35 ?_
  refine s_iadd dX9_sells_36 ?_
  refine s_iload_n dX9_sells_37 rfl ?_
  refine s_iastoreG dX9_sells_38 (rk_7_1 io_196) (by omega) (by omega) hG2 (by first | exact hG2.2 _ _ | exact hG.2 _ _ | exact b01_in _ | assumption | exact ⟨by omega, by omega⟩) (fun hG3 => ?_)
  refine s_aload_n dX9_sells_39 rfl ?_
  refine s_getr dX9_sells_40 fl_X9_7 kl_7 (by decide) rfl io_196 (z := 1) rfl (rf_7_1 hG3.1 io_196) (rk_7_1 io_196).1 ?_
  refine s_iconst dX9_sells_43 ?_
  refine s_iconst dX9_sells_44 ?_
  refine s_iload_n dX9_sells_45 rfl ?_
  refine s_imul dX9_sells_46 ?_
  refine s_iadd dX9_sells_47 ?_
  refine s_iconst dX9_sells_48 ?_
  refine s_iadd dX9_sells_49 ?_
  refine s_iload_n dX9_sells_50 rfl ?_
  refine s_iastoreG dX9_sells_51 (rk_7_1 io_196) (by omega) (by omega) hG3 (by first | exact hG3.2 _ _ | exact hG.2 _ _ | exact b01_in _ | assumption | exact ⟨by omega, by omega⟩) (fun hG4 => ?_)
  refine s_return dX9_sells_52 rfl (k _ (mr_put M hG4 (fun x y hx => by rw [hs_ne _ (fun w => hx w.1), hs_ne _ (fun w => hx w.1), hs_ne _ (fun w => hx w.1), hs_ne _ (fun w => hx w.1)]) ?_ (zf_sold (zf_z.mp (mr_i M).1) t0 t1 p0 p1 v0 v1 hc)) (fun x y hx => by rw [hs_ne _ (by omega), hs_ne _ (by omega), hs_ne _ (by omega), hs_ne _ (by omega)]) (by rw [hs_ne _ (by omega), hs_ne _ (by omega), hs_ne _ (by omega), hs_ne _ (by omega)]))
  rw [e56, ← fsold_eq t0 t1]
  exact rw_put (rw_put (rw_put (rw_put (mr_f M) (by omega) (by omega) (pm_h (by omega))) (by omega) (by omega) (pm_t (by omega) (by omega) t1 (by omega))) (by omega) (by omega) (pm_t (by omega) (by omega) t1 (by omega))) (by omega) (by omega) (pm_t (by omega) (by omega) t1 (by omega))
set_option maxRecDepth 100000 in
set_option maxHeartbeats 4000000 in
theorem c_X9_whyNotSold {t p v : Int} (hd : 1 ≤ d) (M : MR_ h z) (t0 : 0 ≤ t) (t1 : t < 8) (hp : inI p) (hv : inI v) (k : (1 ≤ p ∧ p ≤ 9999 ∧ 0 ≤ v ∧ v ≤ p) → (z 1 (8 + t) = 0 ∧ z 1 56 + p - v ≤ 99999) → Q.1 (some (0, 0)) nN h) (k2 : ¬ (1 ≤ p ∧ p ≤ 9999 ∧ 0 ≤ v ∧ v ≤ p) → Q.1 (some (0, 2)) nN h) (k3 : (1 ≤ p ∧ p ≤ 9999 ∧ 0 ≤ v ∧ v ≤ p) → ¬ (z 1 (8 + t) = 0 ∧ z 1 56 + p - v ≤ 99999) → Q.1 (some (0, 3)) nN h) : Cl_ yX9_whyNotSold MX9_whyNotSold d bc bs [(2, 196), (0, t), (0, p), (0, v)] nN h Q := by
  refine s_enter pn_X9 rfl (Nat.le_of_ble_eq_true rfl) (L := [(2, _), (0, _), (0, _), (0, _)]) rfl ?_
  have hG := M.1
  have b56 := (mr_i M).1.2.2.1
  have b8 := (mr_i M).1.1 t t0 t1
  have e56 := mr_f M 56 (by omega) (by omega)
  rw [pm_h (by omega)] at e56
  have lp := inI_L hp
  have lv := inI_L hv
  refine s_iload_n dX9_whyNotSold_0 rfl ?_
  refine s_i2l dX9_whyNotSold_1 (by first | exact hG.2 _ _ | exact b01_in _ | assumption | exact ⟨by omega, by omega⟩) ?_
  refine s_lconstz (z := 1) dX9_whyNotSold_2 rfl ?_
  refine s_ldc2 dX9_whyNotSold_3 kc_X9_328 ?_
  refine s_callS (d' := d - 1) (bc' := 0) (bs' := 0) (as := [_, _, _]) dX9_whyNotSold_6 sf_X9_143 (dd_ (by omega) (by decide)) ⟨Nat.zero_le _, Nat.zero_le _⟩ rfl rfl (Nat.le_of_ble_eq_true rfl) ?_
  refine c_X9_isIn lp ⟨by decide, by decide⟩ ⟨by decide, by decide⟩ ?_
  refine s_if_eq (tgt := 23) dX9_whyNotSold_9 (by decide) (by first | exact hG.2 _ _ | exact b01_in _ | assumption | exact ⟨by omega, by omega⟩) (fun c1 => ?_) (fun c1 => ?_)
  · have c1 := b01_0.mp c1
    refine s_iconst dX9_whyNotSold_23 ?_
    exact s_ireturn dX9_whyNotSold_24 rfl (k2 (by omega))
  · have c1 := b01_n.mp c1
    refine s_iload_n dX9_whyNotSold_12 rfl ?_
    refine s_i2l dX9_whyNotSold_13 (by first | exact hG.2 _ _ | exact b01_in _ | assumption | exact ⟨by omega, by omega⟩) ?_
    refine s_lconstz (z := 0) dX9_whyNotSold_14 rfl ?_
    refine s_iload_n dX9_whyNotSold_15 rfl ?_
    refine s_i2l dX9_whyNotSold_16 (by first | exact hG.2 _ _ | exact b01_in _ | assumption | exact ⟨by omega, by omega⟩) ?_
    refine s_callS (d' := d - 1) (bc' := 0) (bs' := 0) (as := [_, _, _]) dX9_whyNotSold_17 sf_X9_143 (dd_ (by omega) (by decide)) ⟨Nat.zero_le _, Nat.zero_le _⟩ rfl rfl (Nat.le_of_ble_eq_true rfl) ?_
    refine c_X9_isIn lv inL0 lp ?_
    refine s_if_ne (tgt := 25) dX9_whyNotSold_20 (by decide) (by first | exact hG.2 _ _ | exact b01_in _ | assumption | exact ⟨by omega, by omega⟩) (fun c2 => ?_) (fun c2 => ?_)
    · have c2 := b01_n.mp c2
      refine s_aload_n dX9_whyNotSold_25 rfl ?_
      refine s_iload_n dX9_whyNotSold_26 rfl ?_
      refine s_iconst dX9_whyNotSold_27 ?_
      refine s_callV (d' := d - 1) (bc' := 0) (bs' := 0) (as := [_, _]) dX9_whyNotSold_28 vf_X9_300 (dd_ (by omega) (by decide)) ⟨Nat.zero_le _, Nat.zero_le _⟩ rfl rfl (Nat.le_of_ble_eq_true rfl) kl_7 rfl io_196 ?_
      refine c_X9_ofThing M (by omega) (by omega) (by omega) (by omega) (j := 8 + t) (by omega) ?_
      refine s_if_ne (tgt := 50) dX9_whyNotSold_31 (by decide) (by first | exact hG.2 _ _ | exact b01_in _ | assumption | exact ⟨by omega, by omega⟩) (fun c3 => ?_) (fun c3 => ?_)
      · refine s_iconst dX9_whyNotSold_50 ?_
        refine s_goto (tgt := 55) dX9_whyNotSold_51 (by decide) ?_
        first | exact s_ireturn dX9_whyNotSold_55 rfl (k (by omega) (by omega)) | exact s_ireturn dX9_whyNotSold_55 rfl (k3 (by omega) (by omega))
      · refine s_aload_n dX9_whyNotSold_34 rfl ?_
        refine s_getr dX9_whyNotSold_35 fl_X9_7 kl_7 (by decide) rfl io_196 (z := 1) rfl (rf_7_1 hG.1 io_196) (rk_7_1 io_196).1 ?_
        refine s_bipush dX9_whyNotSold_38 (by decide) ?_
        refine s_iaload dX9_whyNotSold_40 (rk_7_1 io_196) (by omega) (by omega) ?_
        refine s_iload_n dX9_whyNotSold_41 rfl ?_
        refine s_iadd dX9_whyNotSold_42 ?_
        refine s_iload_n dX9_whyNotSold_43 rfl ?_
        refine s_isub dX9_whyNotSold_44 ?_
        refine s_ldc dX9_whyNotSold_45 kc_X9_240 ?_
        refine s_icmp_le (tgt := 54) dX9_whyNotSold_47 (by decide) (by first | exact hG.2 _ _ | exact b01_in _ | assumption | exact ⟨by omega, by omega⟩) (by first | exact hG.2 _ _ | exact b01_in _ | assumption | exact ⟨by omega, by omega⟩) (fun c4 => ?_) (fun c4 => ?_)
        · refine s_iconst dX9_whyNotSold_54 ?_
          first | exact s_ireturn dX9_whyNotSold_55 rfl (k (by omega) (by omega)) | exact s_ireturn dX9_whyNotSold_55 rfl (k3 (by omega) (by omega))
        · refine s_iconst dX9_whyNotSold_50 ?_
          refine s_goto (tgt := 55) dX9_whyNotSold_51 (by decide) ?_
          first | exact s_ireturn dX9_whyNotSold_55 rfl (k (by omega) (by omega)) | exact s_ireturn dX9_whyNotSold_55 rfl (k3 (by omega) (by omega))
    · have c2 := b01_0.mp c2
      refine s_iconst dX9_whyNotSold_23 ?_
      exact s_ireturn dX9_whyNotSold_24 rfl (k2 (by omega))
set_option maxRecDepth 100000 in
set_option maxHeartbeats 4000000 in
theorem c_X9_sell {t p v : Int} (hd : 3 ≤ d) (M : MR_ h z) (ht : inI t) (hp : inI p) (hv : inI v) (k : 0 ≤ t → t < z 0 0 → (1 ≤ p ∧ p ≤ 9999 ∧ 0 ≤ v ∧ v ≤ p) → z 1 (8 + t) = 0 → z 1 56 + p - v ≤ 99999 → MK_ Q h (zact z (fsold (z 1) t p v)) 0 (z 1 56 + (p - v))) (k1 : ¬ (0 ≤ t ∧ t < z 0 0) → MK_ Q h z 1 0) (k2 : 0 ≤ t → t < z 0 0 → ¬ (1 ≤ p ∧ p ≤ 9999 ∧ 0 ≤ v ∧ v ≤ p) → MK_ Q h z 2 0) (k3 : 0 ≤ t → t < z 0 0 → (1 ≤ p ∧ p ≤ 9999 ∧ 0 ≤ v ∧ v ≤ p) → ¬ (z 1 (8 + t) = 0 ∧ z 1 56 + p - v ≤ 99999) → MK_ Q h z 3 0) : Cl_ yX9_sell MX9_sell d bc bs [(2, 196), (0, t), (0, p), (0, v)] nN h Q := by
  refine s_enter pn_X9 rfl (Nat.le_of_ble_eq_true rfl) (L := [(2, _), (0, _), (0, _), (0, _)]) rfl ?_
  have hG := M.1
  have I := mr_i M
  have hT := I.2.1
  have hP := I.2.2.1
  have hN := I.2.2.2.1
  have nn := M.2.1
  refine s_aload_n dX9_sell_0 rfl ?_
  refine s_aload_n dX9_sell_1 rfl ?_
  refine s_iload_n dX9_sell_2 rfl ?_
  refine s_callV (d' := d - 1) (bc' := 0) (bs' := 0) (as := [_]) dX9_sell_3 vf_X9_294 (dd_ (by omega) (by decide)) ⟨Nat.zero_le _, Nat.zero_le _⟩ rfl rfl (Nat.le_of_ble_eq_true rfl) kl_7 rfl io_196 ?_
  refine c_X9_isThing (by omega) M ht ?_
  refine s_if_eq (tgt := 19) dX9_sell_6 (by decide) (by first | exact hG.2 _ _ | exact b01_in _ | assumption | exact ⟨by omega, by omega⟩) (fun c1 => ?_) (fun c1 => ?_)
  · have c1 := b01_0.mp c1
    refine s_iconst dX9_sell_19 ?_
    refine s_putiG 0 dX9_sell_20 fl_X9_98 kl_7 (by decide) rfl rfl io_196 (z := 0) rfl (by decide +kernel) hG (by first | exact hG.2 _ _ | exact b01_in _ | assumption | exact ⟨by omega, by omega⟩) (fun hG1 => ?_)
    obtain ⟨M, fm, th⟩ := mr_th M hG1
    refine s_aload_n dX9_sell_23 rfl ?_
    refine s_geti dX9_sell_24 fl_X9_98 kl_7 (by decide) rfl io_196 (z := 0) rfl ?_
    rw [th]
    refine s_if_le (tgt := 32) dX9_sell_27 (by decide) (by first | exact hG1.2 _ _ | exact hG.2 _ _ | exact b01_in _ | assumption | exact ⟨by omega, by omega⟩) (fun c2 => ?_) (fun c2 => ?_)
    · exact absurd c2 (by decide)
    · refine s_iconst dX9_sell_30 ?_
      exact s_ireturn dX9_sell_31 rfl (k1 (by omega) _ M fm th)
  · have c1 := b01_n.mp c1
    refine s_aload_n dX9_sell_9 rfl ?_
    refine s_iload_n dX9_sell_10 rfl ?_
    refine s_iload_n dX9_sell_11 rfl ?_
    refine s_iload_n dX9_sell_12 rfl ?_
    
    refine s_callV (d' := d - 1) (bc' := 0) (bs' := 0) (as := [_, _, _]) dX9_sell_13 vf_X9_330 (dd_ (by omega) (by decide)) ⟨Nat.zero_le _, Nat.zero_le _⟩ rfl rfl (Nat.le_of_ble_eq_true rfl) kl_7 rfl io_196 ?_
    refine c_X9_whyNotSold (by omega) M (by omega) (by omega) hp hv (fun w1 w2 => ?_) (fun w1 => ?_) (fun w1 w2 => ?_)
    · refine s_goto (tgt := 20) dX9_sell_16 (by decide) ?_
      refine s_putiG 0 dX9_sell_20 fl_X9_98 kl_7 (by decide) rfl rfl io_196 (z := 0) rfl (by decide +kernel) hG (by first | exact hG.2 _ _ | exact b01_in _ | assumption | exact ⟨by omega, by omega⟩) (fun hG1 => ?_)
      obtain ⟨M, fm, th⟩ := mr_th M hG1
      refine s_aload_n dX9_sell_23 rfl ?_
      refine s_geti dX9_sell_24 fl_X9_98 kl_7 (by decide) rfl io_196 (z := 0) rfl ?_
      rw [th]
      refine s_if_le (tgt := 32) dX9_sell_27 (by decide) (by first | exact hG1.2 _ _ | exact hG.2 _ _ | exact b01_in _ | assumption | exact ⟨by omega, by omega⟩) (fun c1 => ?_) (fun c1 => ?_)
      · refine s_aload_n dX9_sell_32 rfl ?_
        refine s_callV (d' := d - 1) (bc' := 0) (bs' := 0) (as := []) dX9_sell_33 vf_X9_334 (dd_ (by omega) (by decide)) ⟨Nat.zero_le _, Nat.zero_le _⟩ rfl rfl (Nat.le_of_ble_eq_true rfl) kl_7 rfl io_196 ?_
        refine c_X9_remembers M (fun hhG2 MhG2 fmhG2 thhG2 => ?_)
        have hG2 := MhG2.1
        have MR := MhG2
        have fm := fm.tr fmhG2
        have th := thhG2.trans th
        have k0 : zkeep z 0 = z 0 := zkeep_ne (by omega)
        have k1_ : zkeep z 1 = z 1 := zkeep_ne (by omega)
        refine s_aload_n dX9_sell_36 rfl ?_
        refine s_iload_n dX9_sell_37 rfl ?_
        refine s_iload_n dX9_sell_38 rfl ?_
        refine s_iload_n dX9_sell_39 rfl ?_
        refine s_callV (d' := d - 1) (bc' := 0) (bs' := 0) (as := [_, _, _]) dX9_sell_40 vf_X9_337 (dd_ (by omega) (by decide)) ⟨Nat.zero_le _, Nat.zero_le _⟩ rfl rfl (Nat.le_of_ble_eq_true rfl) kl_7 rfl io_196 ?_
        refine c_X9_sells MhG2 (by omega) (by omega) w1.1 w1.2.1 w1.2.2.1 w1.2.2.2 (by rw [k1_]; exact w2.2) (fun hS MS fmS thS => ?_)
        have hG3 := MS.1
        refine s_aload_n dX9_sell_43 rfl ?_
        refine s_getr dX9_sell_44 fl_X9_7 kl_7 (by decide) rfl io_196 (z := 1) rfl (rf_7_1 hG3.1 io_196) (rk_7_1 io_196).1 ?_
        refine s_bipush dX9_sell_47 (by decide) ?_
        refine s_iaload dX9_sell_49 (rk_7_1 io_196) (by omega) (by omega) ?_
        have F9 := fm.tr fmS
        refine s_ireturn dX9_sell_50 rfl ?_
        have e9 := mr_f MS 56 (by omega) (by omega)
        rw [pm_h (by omega), zput_1] at e9
        have e10 : fsold (zkeep z 1) t p v 56 = z 1 56 + (p - v) := by unfold fsold; rw [fu_eq, k1_]
        rw [e9, e10]
        refine k (by omega) (by omega) w1 w2.1 w2.2 _ ?_ F9 (thS.trans th)
        have e11 : zput (zkeep z) (fsold (zkeep z 1) t p v) = zact z (fsold (z 1) t p v) := by unfold zact; rw [k1_]
        rw [← e11]
        exact MS
      · exact absurd c1 (by decide)
    · refine s_goto (tgt := 20) dX9_sell_16 (by decide) ?_
      refine s_putiG 0 dX9_sell_20 fl_X9_98 kl_7 (by decide) rfl rfl io_196 (z := 0) rfl (by decide +kernel) hG (by first | exact hG.2 _ _ | exact b01_in _ | assumption | exact ⟨by omega, by omega⟩) (fun hG1 => ?_)
      obtain ⟨M, fm, th⟩ := mr_th M hG1
      refine s_aload_n dX9_sell_23 rfl ?_
      refine s_geti dX9_sell_24 fl_X9_98 kl_7 (by decide) rfl io_196 (z := 0) rfl ?_
      rw [th]
      refine s_if_le (tgt := 32) dX9_sell_27 (by decide) (by first | exact hG1.2 _ _ | exact hG.2 _ _ | exact b01_in _ | assumption | exact ⟨by omega, by omega⟩) (fun c1 => ?_) (fun c1 => ?_)
      · exact absurd c1 (by decide)
      · refine s_iconst dX9_sell_30 ?_
        exact s_ireturn dX9_sell_31 rfl (k2 (by omega) (by omega) w1 _ M fm th)
    · refine s_goto (tgt := 20) dX9_sell_16 (by decide) ?_
      refine s_putiG 0 dX9_sell_20 fl_X9_98 kl_7 (by decide) rfl rfl io_196 (z := 0) rfl (by decide +kernel) hG (by first | exact hG.2 _ _ | exact b01_in _ | assumption | exact ⟨by omega, by omega⟩) (fun hG1 => ?_)
      obtain ⟨M, fm, th⟩ := mr_th M hG1
      refine s_aload_n dX9_sell_23 rfl ?_
      refine s_geti dX9_sell_24 fl_X9_98 kl_7 (by decide) rfl io_196 (z := 0) rfl ?_
      rw [th]
      refine s_if_le (tgt := 32) dX9_sell_27 (by decide) (by first | exact hG1.2 _ _ | exact hG.2 _ _ | exact b01_in _ | assumption | exact ⟨by omega, by omega⟩) (fun c1 => ?_) (fun c1 => ?_)
      · exact absurd c1 (by decide)
      · refine s_iconst dX9_sell_30 ?_
        exact s_ireturn dX9_sell_31 rfl (k3 (by omega) (by omega) w1 w2 _ M fm th)
set_option maxRecDepth 100000 in
set_option maxHeartbeats 4000000 in
theorem c_X9_change {t v : Int} (hd : 3 ≤ d) (M : MR_ h z) (ht : inI t) (hv : inI v) (k : 0 ≤ t → t < z 0 0 → 1 ≤ v → v ≤ 9999 → z 1 (8 + t) = 0 → MK_ Q h (zact z (fu_ (z 1) t v)) 0 (z 1 t)) (k1 : ¬ (0 ≤ t ∧ t < z 0 0) → MK_ Q h z 1 0) (k2 : 0 ≤ t → t < z 0 0 → ¬ (1 ≤ v ∧ v ≤ 9999) → MK_ Q h z 2 0) (k3 : 0 ≤ t → t < z 0 0 → 1 ≤ v → v ≤ 9999 → ¬ z 1 (8 + t) = 0 → MK_ Q h z 3 0) : Cl_ yX9_change MX9_change d bc bs [(2, 196), (0, t), (0, v)] nN h Q := by
  refine s_enter pn_X9 rfl (Nat.le_of_ble_eq_true rfl) (L := [(2, _), (0, _), (0, _), (9, 0)]) rfl ?_
  have hG := M.1
  have I := mr_i M
  have hT := I.2.1
  have hP := I.2.2.1
  have hN := I.2.2.2.1
  have nn := M.2.1
  refine s_aload_n dX9_change_0 rfl ?_
  refine s_aload_n dX9_change_1 rfl ?_
  refine s_iload_n dX9_change_2 rfl ?_
  refine s_callV (d' := d - 1) (bc' := 0) (bs' := 0) (as := [_]) dX9_change_3 vf_X9_294 (dd_ (by omega) (by decide)) ⟨Nat.zero_le _, Nat.zero_le _⟩ rfl rfl (Nat.le_of_ble_eq_true rfl) kl_7 rfl io_196 ?_
  refine c_X9_isThing (by omega) M ht ?_
  refine s_if_ne (tgt := 13) dX9_change_6 (by decide) (by first | exact hG.2 _ _ | exact b01_in _ | assumption | exact ⟨by omega, by omega⟩) (fun c1 => ?_) (fun c1 => ?_)
  · have c1 := b01_n.mp c1
    refine s_iload_n dX9_change_13 rfl ?_
    refine s_i2l dX9_change_14 (by first | exact hG.2 _ _ | exact b01_in _ | assumption | exact ⟨by omega, by omega⟩) ?_
    refine s_lconstz (z := 1) dX9_change_15 rfl ?_
    refine s_ldc2 dX9_change_16 kc_X9_328 ?_
    refine s_callS (d' := d - 1) (bc' := 0) (bs' := 0) (as := [_, _, _]) dX9_change_19 sf_X9_143 (dd_ (by omega) (by decide)) ⟨Nat.zero_le _, Nat.zero_le _⟩ rfl rfl (Nat.le_of_ble_eq_true rfl) ?_
    refine c_X9_isIn (inI_L (by assumption)) ⟨by omega, by omega⟩ ⟨by omega, by omega⟩ ?_
    refine s_if_ne (tgt := 29) dX9_change_22 (by decide) (by first | exact hG.2 _ _ | exact b01_in _ | assumption | exact ⟨by omega, by omega⟩) (fun c2 => ?_) (fun c2 => ?_)
    · have c2 := b01_n.mp c2
      refine s_aload_n dX9_change_29 rfl ?_
      refine s_iload_n dX9_change_30 rfl ?_
      refine s_iconst dX9_change_31 ?_
      refine s_callV (d' := d - 1) (bc' := 0) (bs' := 0) (as := [_, _]) dX9_change_32 vf_X9_300 (dd_ (by omega) (by decide)) ⟨Nat.zero_le _, Nat.zero_le _⟩ rfl rfl (Nat.le_of_ble_eq_true rfl) kl_7 rfl io_196 ?_
      have b8 := I.1.1 t (by omega) (by omega)
      refine c_X9_ofThing M (by omega) (by omega) (by omega) (by omega) (j := 8 + t) (by omega) ?_
      refine s_if_ne (tgt := 42) dX9_change_35 (by decide) (by first | exact hG.2 _ _ | exact b01_in _ | assumption | exact ⟨by omega, by omega⟩) (fun c3 => ?_) (fun c3 => ?_)
      · refine s_iconst dX9_change_42 ?_
        refine s_putiG 0 dX9_change_43 fl_X9_98 kl_7 (by decide) rfl rfl io_196 (z := 0) rfl (by decide +kernel) hG (by first | exact hG.2 _ _ | exact b01_in _ | assumption | exact ⟨by omega, by omega⟩) (fun hG1 => ?_)
        obtain ⟨M, fm, th⟩ := mr_th M hG1
        refine s_aload_n dX9_change_46 rfl ?_
        refine s_geti dX9_change_47 fl_X9_98 kl_7 (by decide) rfl io_196 (z := 0) rfl ?_
        rw [th]
        refine s_if_le (tgt := 55) dX9_change_50 (by decide) (by first | exact hG1.2 _ _ | exact hG.2 _ _ | exact b01_in _ | assumption | exact ⟨by omega, by omega⟩) (fun c4 => ?_) (fun c4 => ?_)
        · exact absurd c4 (by decide)
        · refine s_iconst dX9_change_53 ?_
          exact s_ireturn dX9_change_54 rfl (k3 (by omega) (by omega) (by omega) (by omega) (by omega) _ M fm th)
      · refine s_iconst dX9_change_38 ?_
        refine s_goto (tgt := 43) dX9_change_39 (by decide) ?_
        refine s_putiG 0 dX9_change_43 fl_X9_98 kl_7 (by decide) rfl rfl io_196 (z := 0) rfl (by decide +kernel) hG (by first | exact hG.2 _ _ | exact b01_in _ | assumption | exact ⟨by omega, by omega⟩) (fun hG2 => ?_)
        obtain ⟨M, fm, th⟩ := mr_th M hG2
        refine s_aload_n dX9_change_46 rfl ?_
        refine s_geti dX9_change_47 fl_X9_98 kl_7 (by decide) rfl io_196 (z := 0) rfl ?_
        rw [th]
        refine s_if_le (tgt := 55) dX9_change_50 (by decide) (by first | exact hG2.2 _ _ | exact hG.2 _ _ | exact b01_in _ | assumption | exact ⟨by omega, by omega⟩) (fun c5 => ?_) (fun c5 => ?_)
        · refine s_aload_n dX9_change_55 rfl ?_
          refine s_callV (d' := d - 1) (bc' := 0) (bs' := 0) (as := []) dX9_change_56 vf_X9_334 (dd_ (by omega) (by decide)) ⟨Nat.zero_le _, Nat.zero_le _⟩ rfl rfl (Nat.le_of_ble_eq_true rfl) kl_7 rfl io_196 ?_
          refine c_X9_remembers M (fun hhG3 MhG3 fmhG3 thhG3 => ?_)
          have hG3 := MhG3.1
          have MR := MhG3
          have fm := fm.tr fmhG3
          have th := thhG3.trans th
          have k0 : zkeep z 0 = z 0 := zkeep_ne (by omega)
          have k1_ : zkeep z 1 = z 1 := zkeep_ne (by omega)
          refine s_aload_n dX9_change_59 rfl ?_
          refine s_iload_n dX9_change_60 rfl ?_
          refine s_iconst dX9_change_61 ?_
          refine s_callV (d' := d - 1) (bc' := 0) (bs' := 0) (as := [_, _]) dX9_change_62 vf_X9_300 (dd_ (by omega) (by decide)) ⟨Nat.zero_le _, Nat.zero_le _⟩ rfl rfl (Nat.le_of_ble_eq_true rfl) kl_7 rfl io_196 ?_
          refine c_X9_ofThing MhG3 (by omega) (by omega) (by omega) (by omega) (j := t) (by omega) ?_
          rw [k1_]
          refine s_istore_n dX9_change_65 (by decide) rfl (L' := [_, _, _, _]) rfl ?_
          refine s_aload_n dX9_change_66 rfl ?_
          refine s_getr dX9_change_67 fl_X9_7 kl_7 (by decide) rfl io_196 (z := 1) rfl (rf_7_1 hG3.1 io_196) (rk_7_1 io_196).1 ?_
          refine s_iconst dX9_change_70 ?_
          refine s_iconst dX9_change_71 ?_
          refine s_iload_n dX9_change_72 rfl ?_
          refine s_imul dX9_change_73 ?_
          refine s_iadd dX9_change_74 ?_
          refine s_iconst dX9_change_75 ?_
          refine s_iadd dX9_change_76 ?_
          refine s_iload_n dX9_change_77 rfl ?_
          refine s_iastoreG dX9_change_78 (rk_7_1 io_196) (by omega) (by omega) hG3 (by first | exact hG3.2 _ _ | exact hG.2 _ _ | exact b01_in _ | assumption | exact ⟨by omega, by omega⟩) (fun hG4 => ?_)
          refine s_iload_n dX9_change_79 rfl ?_
          refine s_ireturn dX9_change_80 rfl (k (by omega) (by omega) (by omega) (by omega) (by omega) _ ?_ (fm.tr (fun x y hx => by rw [hs_ne _ (by omega)])) (by rw [hs_ne _ (by omega)]; exact th))
          refine mr_put MR hG4 (fun x y hx => by rw [hs_ne _ (fun w => hx w.1)]) ?_ (zf_fu (zf_z.mp I.1) (by unfold zok; omega))
          rw [← k1_]
          exact rw_put (mr_f MR) (by omega) (by omega) (pm_t (by omega) (by omega) (by omega) (by omega))
        · exact absurd c5 (by decide)
    · have c2 := b01_0.mp c2
      refine s_iconst dX9_change_25 ?_
      refine s_goto (tgt := 43) dX9_change_26 (by decide) ?_
      refine s_putiG 0 dX9_change_43 fl_X9_98 kl_7 (by decide) rfl rfl io_196 (z := 0) rfl (by decide +kernel) hG (by first | exact hG.2 _ _ | exact b01_in _ | assumption | exact ⟨by omega, by omega⟩) (fun hG5 => ?_)
      obtain ⟨M, fm, th⟩ := mr_th M hG5
      refine s_aload_n dX9_change_46 rfl ?_
      refine s_geti dX9_change_47 fl_X9_98 kl_7 (by decide) rfl io_196 (z := 0) rfl ?_
      rw [th]
      refine s_if_le (tgt := 55) dX9_change_50 (by decide) (by first | exact hG5.2 _ _ | exact hG.2 _ _ | exact b01_in _ | assumption | exact ⟨by omega, by omega⟩) (fun c6 => ?_) (fun c6 => ?_)
      · exact absurd c6 (by decide)
      · refine s_iconst dX9_change_53 ?_
        exact s_ireturn dX9_change_54 rfl (k2 (by omega) (by omega) (by omega) _ M fm th)
  · have c1 := b01_0.mp c1
    refine s_iconst dX9_change_9 ?_
    refine s_goto (tgt := 43) dX9_change_10 (by decide) ?_
    refine s_putiG 0 dX9_change_43 fl_X9_98 kl_7 (by decide) rfl rfl io_196 (z := 0) rfl (by decide +kernel) hG (by first | exact hG.2 _ _ | exact b01_in _ | assumption | exact ⟨by omega, by omega⟩) (fun hG6 => ?_)
    obtain ⟨M, fm, th⟩ := mr_th M hG6
    refine s_aload_n dX9_change_46 rfl ?_
    refine s_geti dX9_change_47 fl_X9_98 kl_7 (by decide) rfl io_196 (z := 0) rfl ?_
    rw [th]
    refine s_if_le (tgt := 55) dX9_change_50 (by decide) (by first | exact hG6.2 _ _ | exact hG.2 _ _ | exact b01_in _ | assumption | exact ⟨by omega, by omega⟩) (fun c7 => ?_) (fun c7 => ?_)
    · exact absurd c7 (by decide)
    · refine s_iconst dX9_change_53 ?_
      exact s_ireturn dX9_change_54 rfl (k1 (by omega) _ M fm th)
set_option maxRecDepth 100000 in
set_option maxHeartbeats 4000000 in
theorem c_X9_lose {t v : Int} (hd : 3 ≤ d) (M : MR_ h z) (ht : inI t) (hv : inI v) (k : 0 ≤ t → t < z 0 0 → 0 ≤ v → v ≤ 9999 → z 1 (8 + t) = 0 → MK_ Q h (zact z (flost (z 1) t v)) 0 (z 1 t)) (k1 : ¬ (0 ≤ t ∧ t < z 0 0) → MK_ Q h z 1 0) (k2 : 0 ≤ t → t < z 0 0 → ¬ (0 ≤ v ∧ v ≤ 9999) → MK_ Q h z 2 0) (k3 : 0 ≤ t → t < z 0 0 → 0 ≤ v → v ≤ 9999 → ¬ z 1 (8 + t) = 0 → MK_ Q h z 3 0) : Cl_ yX9_lose MX9_lose d bc bs [(2, 196), (0, t), (0, v)] nN h Q := by
  refine s_enter pn_X9 rfl (Nat.le_of_ble_eq_true rfl) (L := [(2, _), (0, _), (0, _)]) rfl ?_
  have hG := M.1
  have I := mr_i M
  have hT := I.2.1
  have hP := I.2.2.1
  have hN := I.2.2.2.1
  have nn := M.2.1
  refine s_aload_n dX9_lose_0 rfl ?_
  refine s_aload_n dX9_lose_1 rfl ?_
  refine s_iload_n dX9_lose_2 rfl ?_
  refine s_callV (d' := d - 1) (bc' := 0) (bs' := 0) (as := [_]) dX9_lose_3 vf_X9_294 (dd_ (by omega) (by decide)) ⟨Nat.zero_le _, Nat.zero_le _⟩ rfl rfl (Nat.le_of_ble_eq_true rfl) kl_7 rfl io_196 ?_
  refine c_X9_isThing (by omega) M ht ?_
  refine s_if_ne (tgt := 13) dX9_lose_6 (by decide) (by first | exact hG.2 _ _ | exact b01_in _ | assumption | exact ⟨by omega, by omega⟩) (fun c1 => ?_) (fun c1 => ?_)
  · have c1 := b01_n.mp c1
    refine s_iload_n dX9_lose_13 rfl ?_
    refine s_i2l dX9_lose_14 (by first | exact hG.2 _ _ | exact b01_in _ | assumption | exact ⟨by omega, by omega⟩) ?_
    refine s_lconstz (z := 0) dX9_lose_15 rfl ?_
    refine s_ldc2 dX9_lose_16 kc_X9_328 ?_
    refine s_callS (d' := d - 1) (bc' := 0) (bs' := 0) (as := [_, _, _]) dX9_lose_19 sf_X9_143 (dd_ (by omega) (by decide)) ⟨Nat.zero_le _, Nat.zero_le _⟩ rfl rfl (Nat.le_of_ble_eq_true rfl) ?_
    refine c_X9_isIn (inI_L (by assumption)) ⟨by omega, by omega⟩ ⟨by omega, by omega⟩ ?_
    refine s_if_ne (tgt := 29) dX9_lose_22 (by decide) (by first | exact hG.2 _ _ | exact b01_in _ | assumption | exact ⟨by omega, by omega⟩) (fun c2 => ?_) (fun c2 => ?_)
    · have c2 := b01_n.mp c2
      refine s_aload_n dX9_lose_29 rfl ?_
      refine s_iload_n dX9_lose_30 rfl ?_
      refine s_iconst dX9_lose_31 ?_
      refine s_callV (d' := d - 1) (bc' := 0) (bs' := 0) (as := [_, _]) dX9_lose_32 vf_X9_300 (dd_ (by omega) (by decide)) ⟨Nat.zero_le _, Nat.zero_le _⟩ rfl rfl (Nat.le_of_ble_eq_true rfl) kl_7 rfl io_196 ?_
      have b8 := I.1.1 t (by omega) (by omega)
      refine c_X9_ofThing M (by omega) (by omega) (by omega) (by omega) (j := 8 + t) (by omega) ?_
      refine s_if_ne (tgt := 42) dX9_lose_35 (by decide) (by first | exact hG.2 _ _ | exact b01_in _ | assumption | exact ⟨by omega, by omega⟩) (fun c3 => ?_) (fun c3 => ?_)
      · refine s_iconst dX9_lose_42 ?_
        refine s_putiG 0 dX9_lose_43 fl_X9_98 kl_7 (by decide) rfl rfl io_196 (z := 0) rfl (by decide +kernel) hG (by first | exact hG.2 _ _ | exact b01_in _ | assumption | exact ⟨by omega, by omega⟩) (fun hG1 => ?_)
        obtain ⟨M, fm, th⟩ := mr_th M hG1
        refine s_aload_n dX9_lose_46 rfl ?_
        refine s_geti dX9_lose_47 fl_X9_98 kl_7 (by decide) rfl io_196 (z := 0) rfl ?_
        rw [th]
        refine s_if_le (tgt := 55) dX9_lose_50 (by decide) (by first | exact hG1.2 _ _ | exact hG.2 _ _ | exact b01_in _ | assumption | exact ⟨by omega, by omega⟩) (fun c4 => ?_) (fun c4 => ?_)
        · exact absurd c4 (by decide)
        · refine s_iconst dX9_lose_53 ?_
          exact s_ireturn dX9_lose_54 rfl (k3 (by omega) (by omega) (by omega) (by omega) (by omega) _ M fm th)
      · refine s_iconst dX9_lose_38 ?_
        refine s_goto (tgt := 43) dX9_lose_39 (by decide) ?_
        refine s_putiG 0 dX9_lose_43 fl_X9_98 kl_7 (by decide) rfl rfl io_196 (z := 0) rfl (by decide +kernel) hG (by first | exact hG.2 _ _ | exact b01_in _ | assumption | exact ⟨by omega, by omega⟩) (fun hG2 => ?_)
        obtain ⟨M, fm, th⟩ := mr_th M hG2
        refine s_aload_n dX9_lose_46 rfl ?_
        refine s_geti dX9_lose_47 fl_X9_98 kl_7 (by decide) rfl io_196 (z := 0) rfl ?_
        rw [th]
        refine s_if_le (tgt := 55) dX9_lose_50 (by decide) (by first | exact hG2.2 _ _ | exact hG.2 _ _ | exact b01_in _ | assumption | exact ⟨by omega, by omega⟩) (fun c5 => ?_) (fun c5 => ?_)
        · refine s_aload_n dX9_lose_55 rfl ?_
          refine s_callV (d' := d - 1) (bc' := 0) (bs' := 0) (as := []) dX9_lose_56 vf_X9_334 (dd_ (by omega) (by decide)) ⟨Nat.zero_le _, Nat.zero_le _⟩ rfl rfl (Nat.le_of_ble_eq_true rfl) kl_7 rfl io_196 ?_
          refine c_X9_remembers M (fun hhG3 MhG3 fmhG3 thhG3 => ?_)
          have hG3 := MhG3.1
          have MR := MhG3
          have fm := fm.tr fmhG3
          have th := thhG3.trans th
          have k0 : zkeep z 0 = z 0 := zkeep_ne (by omega)
          have k1_ : zkeep z 1 = z 1 := zkeep_ne (by omega)
          refine s_aload_n dX9_lose_59 rfl ?_
          refine s_getr dX9_lose_60 fl_X9_7 kl_7 (by decide) rfl io_196 (z := 1) rfl (rf_7_1 hG3.1 io_196) (rk_7_1 io_196).1 ?_
          refine s_iconst dX9_lose_63 ?_
          refine s_iconst dX9_lose_64 ?_
          refine s_iload_n dX9_lose_65 rfl ?_
          refine s_imul dX9_lose_66 ?_
          refine s_iadd dX9_lose_67 ?_
          refine s_iconst dX9_lose_68 ?_
          refine s_iadd dX9_lose_69 ?_
          refine s_iconst dX9_lose_70 ?_
          refine s_iastoreG dX9_lose_71 (rk_7_1 io_196) (by omega) (by omega) hG3 (by first | exact hG3.2 _ _ | exact hG.2 _ _ | exact b01_in _ | assumption | exact ⟨by omega, by omega⟩) (fun hG4 => ?_)
          refine s_aload_n dX9_lose_72 rfl ?_
          refine s_getr dX9_lose_73 fl_X9_7 kl_7 (by decide) rfl io_196 (z := 1) rfl (rf_7_1 hG4.1 io_196) (rk_7_1 io_196).1 ?_
          refine s_iconst dX9_lose_76 ?_
          refine s_iconst dX9_lose_77 ?_
          refine s_iload_n dX9_lose_78 rfl ?_
          refine s_imul dX9_lose_79 ?_
          refine s_iadd dX9_lose_80 ?_
          refine s_iconst dX9_lose_81 ?_
          refine s_iadd dX9_lose_82 ?_
          refine s_iload_n dX9_lose_83 rfl ?_
          refine s_iastoreG dX9_lose_84 (rk_7_1 io_196) (by omega) (by omega) hG4 (by first | exact hG4.2 _ _ | exact hG.2 _ _ | exact b01_in _ | assumption | exact ⟨by omega, by omega⟩) (fun hG5 => ?_)
          refine s_aload_n dX9_lose_85 rfl ?_
          refine s_iload_n dX9_lose_86 rfl ?_
          refine s_iconst dX9_lose_87 ?_
          refine s_callV (d' := d - 1) (bc' := 0) (bs' := 0) (as := [_, _]) dX9_lose_88 vf_X9_300 (dd_ (by omega) (by decide)) ⟨Nat.zero_le _, Nat.zero_le _⟩ rfl rfl (Nat.le_of_ble_eq_true rfl) kl_7 rfl io_196 ?_
          have M9 : MR_ _ (zact z (flost (z 1) t v)) := mr_put MR hG5 (fun x y hx => by rw [hs_ne _ (fun w => hx w.1), hs_ne _ (fun w => hx w.1)]) (by rw [← k1_]; exact rw_put (rw_put (mr_f MR) (by omega) (by omega) (pm_t (by omega) (by omega) (by omega) (by omega))) (by omega) (by omega) (pm_t (by omega) (by omega) (by omega) (by omega))) (zf_lost (zf_z.mp I.1) (by omega) (by omega) (by omega) (by omega))
          refine c_X9_ofThing M9 (by omega) (by omega) (by omega) (by omega) (j := t) (by omega) ?_
          have e9 : zact z (flost (z 1) t v) 1 t = z 1 t := by unfold zact; rw [zput_1]; unfold flost; rw [fu_ne (by omega), fu_ne (by omega)]
          rw [e9]
          exact s_ireturn dX9_lose_91 rfl (k (by omega) (by omega) (by omega) (by omega) (by omega) _ M9 (fm.tr (fun x y hx => by rw [hs_ne _ (by omega), hs_ne _ (by omega)])) (by rw [hs_ne _ (by omega), hs_ne _ (by omega)]; exact th))
        · exact absurd c5 (by decide)
    · have c2 := b01_0.mp c2
      refine s_iconst dX9_lose_25 ?_
      refine s_goto (tgt := 43) dX9_lose_26 (by decide) ?_
      refine s_putiG 0 dX9_lose_43 fl_X9_98 kl_7 (by decide) rfl rfl io_196 (z := 0) rfl (by decide +kernel) hG (by first | exact hG.2 _ _ | exact b01_in _ | assumption | exact ⟨by omega, by omega⟩) (fun hG6 => ?_)
      obtain ⟨M, fm, th⟩ := mr_th M hG6
      refine s_aload_n dX9_lose_46 rfl ?_
      refine s_geti dX9_lose_47 fl_X9_98 kl_7 (by decide) rfl io_196 (z := 0) rfl ?_
      rw [th]
      refine s_if_le (tgt := 55) dX9_lose_50 (by decide) (by first | exact hG6.2 _ _ | exact hG.2 _ _ | exact b01_in _ | assumption | exact ⟨by omega, by omega⟩) (fun c6 => ?_) (fun c6 => ?_)
      · exact absurd c6 (by decide)
      · refine s_iconst dX9_lose_53 ?_
        exact s_ireturn dX9_lose_54 rfl (k2 (by omega) (by omega) (by omega) _ M fm th)
  · have c1 := b01_0.mp c1
    refine s_iconst dX9_lose_9 ?_
    refine s_goto (tgt := 43) dX9_lose_10 (by decide) ?_
    refine s_putiG 0 dX9_lose_43 fl_X9_98 kl_7 (by decide) rfl rfl io_196 (z := 0) rfl (by decide +kernel) hG (by first | exact hG.2 _ _ | exact b01_in _ | assumption | exact ⟨by omega, by omega⟩) (fun hG7 => ?_)
    obtain ⟨M, fm, th⟩ := mr_th M hG7
    refine s_aload_n dX9_lose_46 rfl ?_
    refine s_geti dX9_lose_47 fl_X9_98 kl_7 (by decide) rfl io_196 (z := 0) rfl ?_
    rw [th]
    refine s_if_le (tgt := 55) dX9_lose_50 (by decide) (by first | exact hG7.2 _ _ | exact hG.2 _ _ | exact b01_in _ | assumption | exact ⟨by omega, by omega⟩) (fun c7 => ?_) (fun c7 => ?_)
    · exact absurd c7 (by decide)
    · refine s_iconst dX9_lose_53 ?_
      exact s_ireturn dX9_lose_54 rfl (k1 (by omega) _ M fm th)
theorem zliving_act {z : PH} {F : Int → Int} : zliving (zact z F) = zliving (zput z F) := by
  unfold zliving zact
  rw [zput_1, zput_1, zput_ne (by omega), zput_ne (by omega), zkeep_ne (by omega)]
set_option maxRecDepth 100000 in
set_option maxHeartbeats 4000000 in
theorem c_X9_die {p : Int} (hd : 3 ≤ d) (M : MR_ h z) (hp : inI p) (k : 0 ≤ p → p < z 0 1 → z 1 (32 + p) = 0 → MK_ Q h (zact z (fu_ (z 1) (32 + p) 1)) 0 (zliving (zput z (fu_ (z 1) (32 + p) 1)))) (k1 : ¬ (0 ≤ p ∧ p < z 0 1) → MK_ Q h z 1 0) (k2 : 0 ≤ p → p < z 0 1 → ¬ z 1 (32 + p) = 0 → MK_ Q h z 2 0) : Cl_ yX9_die MX9_die d bc bs [(2, 196), (0, p)] nN h Q := by
  refine s_enter pn_X9 rfl (Nat.le_of_ble_eq_true rfl) (L := [(2, _), (0, _)]) rfl ?_
  have hG := M.1
  have I := mr_i M
  have hT := I.2.1
  have hP := I.2.2.1
  have hN := I.2.2.2.1
  have nn := M.2.1
  have ed : zdd z p = z 1 (32 + p) := rfl
  refine s_aload_n dX9_die_0 rfl ?_
  refine s_aload_n dX9_die_1 rfl ?_
  refine s_iload_n dX9_die_2 rfl ?_
  refine s_callV (d' := d - 1) (bc' := 0) (bs' := 0) (as := [_]) dX9_die_3 vf_X9_290 (dd_ (by omega) (by decide)) ⟨Nat.zero_le _, Nat.zero_le _⟩ rfl rfl (Nat.le_of_ble_eq_true rfl) kl_7 rfl io_196 ?_
  refine c_X9_isPerson (by omega) M hp ?_
  refine s_if_ne (tgt := 13) dX9_die_6 (by decide) (by first | exact hG.2 _ _ | exact b01_in _ | assumption | exact ⟨by omega, by omega⟩) (fun c1 => ?_) (fun c1 => ?_)
  · have c1 := b01_n.mp c1
    refine s_aload_n dX9_die_13 rfl ?_
    refine s_iload_n dX9_die_14 rfl ?_
    refine s_callV (d' := d - 1) (bc' := 0) (bs' := 0) (as := [_]) dX9_die_15 vf_X9_308 (dd_ (by omega) (by decide)) ⟨Nat.zero_le _, Nat.zero_le _⟩ rfl rfl (Nat.le_of_ble_eq_true rfl) kl_7 rfl io_196 ?_
    refine c_X9_isDead M (by omega) (by omega) ?_
    refine s_if_eq (tgt := 25) dX9_die_18 (by decide) (by first | exact hG.2 _ _ | exact b01_in _ | assumption | exact ⟨by omega, by omega⟩) (fun c2 => ?_) (fun c2 => ?_)
    · have c2 := b01_0.mp c2
      refine s_iconst dX9_die_25 ?_
      refine s_putiG 0 dX9_die_26 fl_X9_98 kl_7 (by decide) rfl rfl io_196 (z := 0) rfl (by decide +kernel) hG (by first | exact hG.2 _ _ | exact b01_in _ | assumption | exact ⟨by omega, by omega⟩) (fun hG1 => ?_)
      obtain ⟨M, fm, th⟩ := mr_th M hG1
      refine s_aload_n dX9_die_29 rfl ?_
      refine s_geti dX9_die_30 fl_X9_98 kl_7 (by decide) rfl io_196 (z := 0) rfl ?_
      rw [th]
      refine s_if_le (tgt := 38) dX9_die_33 (by decide) (by first | exact hG1.2 _ _ | exact hG.2 _ _ | exact b01_in _ | assumption | exact ⟨by omega, by omega⟩) (fun c3 => ?_) (fun c3 => ?_)
      · refine s_aload_n dX9_die_38 rfl ?_
        refine s_callV (d' := d - 1) (bc' := 0) (bs' := 0) (as := []) dX9_die_39 vf_X9_334 (dd_ (by omega) (by decide)) ⟨Nat.zero_le _, Nat.zero_le _⟩ rfl rfl (Nat.le_of_ble_eq_true rfl) kl_7 rfl io_196 ?_
        refine c_X9_remembers M (fun hhG2 MhG2 fmhG2 thhG2 => ?_)
        have hG2 := MhG2.1
        have MR := MhG2
        have fm := fm.tr fmhG2
        have th := thhG2.trans th
        have k0 : zkeep z 0 = z 0 := zkeep_ne (by omega)
        have k1_ : zkeep z 1 = z 1 := zkeep_ne (by omega)
        refine s_aload_n dX9_die_42 rfl ?_
        refine s_getr dX9_die_43 fl_X9_7 kl_7 (by decide) rfl io_196 (z := 1) rfl (rf_7_1 hG2.1 io_196) (rk_7_1 io_196).1 ?_
        refine s_bipush dX9_die_46 (by decide) ?_
        refine s_iload_n dX9_die_48 rfl ?_
        refine s_iadd dX9_die_49 ?_
        refine s_iconst dX9_die_50 ?_
        refine s_iastoreG dX9_die_51 (rk_7_1 io_196) (by omega) (by omega) hG2 (by first | exact hG2.2 _ _ | exact hG.2 _ _ | exact b01_in _ | assumption | exact ⟨by omega, by omega⟩) (fun hG3 => ?_)
        refine s_aload_n dX9_die_52 rfl ?_
        refine s_callV (d' := d - 1) (bc' := 0) (bs' := 0) (as := []) dX9_die_53 vf_X9_341 (dd_ (by omega) (by decide)) ⟨Nat.zero_le _, Nat.zero_le _⟩ rfl rfl (Nat.le_of_ble_eq_true rfl) kl_7 rfl io_196 ?_
        have M9 : MR_ _ (zact z (fu_ (z 1) (32 + p) 1)) := mr_put MR hG3 (fun x y hx => by rw [hs_ne _ (fun w => hx w.1)]) (by rw [← k1_]; exact rw_put (mr_f MR) (by omega) (by omega) (pm_h (by omega))) (zf_fu (zf_z.mp I.1) (by unfold zok; omega))
        refine c_X9_living (by omega) M9 ?_
        have e9 : sumI (fun q => if zact z (fu_ (z 1) (32 + p) 1) 1 (32 + q) = 0 then 1 else 0) 0 (zact z (fu_ (z 1) (32 + p) 1) 0 1).toNat = zliving (zput z (fu_ (z 1) (32 + p) 1)) := zliving_act
        rw [e9]
        exact s_ireturn dX9_die_56 rfl (k (by omega) (by omega) (by omega) _ M9 (fm.tr (fun x y hx => by rw [hs_ne _ (by omega)])) (by rw [hs_ne _ (by omega)]; exact th))
      · exact absurd c3 (by decide)
    · have c2 := b01_n.mp c2
      refine s_iconst dX9_die_21 ?_
      refine s_goto (tgt := 26) dX9_die_22 (by decide) ?_
      refine s_putiG 0 dX9_die_26 fl_X9_98 kl_7 (by decide) rfl rfl io_196 (z := 0) rfl (by decide +kernel) hG (by first | exact hG.2 _ _ | exact b01_in _ | assumption | exact ⟨by omega, by omega⟩) (fun hG4 => ?_)
      obtain ⟨M, fm, th⟩ := mr_th M hG4
      refine s_aload_n dX9_die_29 rfl ?_
      refine s_geti dX9_die_30 fl_X9_98 kl_7 (by decide) rfl io_196 (z := 0) rfl ?_
      rw [th]
      refine s_if_le (tgt := 38) dX9_die_33 (by decide) (by first | exact hG4.2 _ _ | exact hG.2 _ _ | exact b01_in _ | assumption | exact ⟨by omega, by omega⟩) (fun c4 => ?_) (fun c4 => ?_)
      · exact absurd c4 (by decide)
      · refine s_iconst dX9_die_36 ?_
        exact s_ireturn dX9_die_37 rfl (k2 (by omega) (by omega) (by omega) _ M fm th)
  · have c1 := b01_0.mp c1
    refine s_iconst dX9_die_9 ?_
    refine s_goto (tgt := 26) dX9_die_10 (by decide) ?_
    refine s_putiG 0 dX9_die_26 fl_X9_98 kl_7 (by decide) rfl rfl io_196 (z := 0) rfl (by decide +kernel) hG (by first | exact hG.2 _ _ | exact b01_in _ | assumption | exact ⟨by omega, by omega⟩) (fun hG5 => ?_)
    obtain ⟨M, fm, th⟩ := mr_th M hG5
    refine s_aload_n dX9_die_29 rfl ?_
    refine s_geti dX9_die_30 fl_X9_98 kl_7 (by decide) rfl io_196 (z := 0) rfl ?_
    rw [th]
    refine s_if_le (tgt := 38) dX9_die_33 (by decide) (by first | exact hG5.2 _ _ | exact hG.2 _ _ | exact b01_in _ | assumption | exact ⟨by omega, by omega⟩) (fun c5 => ?_) (fun c5 => ?_)
    · exact absurd c5 (by decide)
    · refine s_iconst dX9_die_36 ?_
      exact s_ireturn dX9_die_37 rfl (k1 (by omega) _ M fm th)
set_option maxRecDepth 100000 in
set_option maxHeartbeats 4000000 in
theorem c_X9_renounce {g v : Int} (hd : 3 ≤ d) (M : MR_ h z) (hg : inI g) (hv : v = 0 ∨ v = 1) (k : 0 ≤ g → g < z 0 2 → MK_ Q h (zact z (fu_ (z 1) (44 + g) v)) 0 (b01 (¬ z 1 (44 + g) = 0))) (k1 : ¬ (0 ≤ g ∧ g < z 0 2) → MK_ Q h z 1 0) : Cl_ yX9_renounce MX9_renounce d bc bs [(2, 196), (0, g), (0, v)] nN h Q := by
  refine s_enter pn_X9 rfl (Nat.le_of_ble_eq_true rfl) (L := [(2, _), (0, _), (0, _), (9, 0)]) rfl ?_
  have hG := M.1
  have I := mr_i M
  have hT := I.2.1
  have hP := I.2.2.1
  have hN := I.2.2.2.1
  have nn := M.2.1
  refine s_aload_n dX9_renounce_0 rfl ?_
  refine s_aload_n dX9_renounce_1 rfl ?_
  refine s_iload_n dX9_renounce_2 rfl ?_
  refine s_callV (d' := d - 1) (bc' := 0) (bs' := 0) (as := [_]) dX9_renounce_3 vf_X9_319 (dd_ (by omega) (by decide)) ⟨Nat.zero_le _, Nat.zero_le _⟩ rfl rfl (Nat.le_of_ble_eq_true rfl) kl_7 rfl io_196 ?_
  refine c_X9_isGift (by omega) M hg ?_
  refine s_if_eq (tgt := 13) dX9_renounce_6 (by decide) (by first | exact hG.2 _ _ | exact b01_in _ | assumption | exact ⟨by omega, by omega⟩) (fun c1 => ?_) (fun c1 => ?_)
  · have c1 := b01_0.mp c1
    refine s_iconst dX9_renounce_13 ?_
    refine s_putiG 0 dX9_renounce_14 fl_X9_98 kl_7 (by decide) rfl rfl io_196 (z := 0) rfl (by decide +kernel) hG (by first | exact hG.2 _ _ | exact b01_in _ | assumption | exact ⟨by omega, by omega⟩) (fun hG1 => ?_)
    obtain ⟨M, fm, th⟩ := mr_th M hG1
    refine s_aload_n dX9_renounce_17 rfl ?_
    refine s_geti dX9_renounce_18 fl_X9_98 kl_7 (by decide) rfl io_196 (z := 0) rfl ?_
    rw [th]
    refine s_if_le (tgt := 26) dX9_renounce_21 (by decide) (by first | exact hG1.2 _ _ | exact hG.2 _ _ | exact b01_in _ | assumption | exact ⟨by omega, by omega⟩) (fun c2 => ?_) (fun c2 => ?_)
    · exact absurd c2 (by decide)
    · refine s_iconst dX9_renounce_24 ?_
      exact s_zreturn dX9_renounce_25 rfl (Or.inl rfl) (k1 (by omega) _ M fm th)
  · have c1 := b01_n.mp c1
    refine s_iconst dX9_renounce_9 ?_
    refine s_goto (tgt := 14) dX9_renounce_10 (by decide) ?_
    refine s_putiG 0 dX9_renounce_14 fl_X9_98 kl_7 (by decide) rfl rfl io_196 (z := 0) rfl (by decide +kernel) hG (by first | exact hG.2 _ _ | exact b01_in _ | assumption | exact ⟨by omega, by omega⟩) (fun hG2 => ?_)
    obtain ⟨M, fm, th⟩ := mr_th M hG2
    refine s_aload_n dX9_renounce_17 rfl ?_
    refine s_geti dX9_renounce_18 fl_X9_98 kl_7 (by decide) rfl io_196 (z := 0) rfl ?_
    rw [th]
    refine s_if_le (tgt := 26) dX9_renounce_21 (by decide) (by first | exact hG2.2 _ _ | exact hG.2 _ _ | exact b01_in _ | assumption | exact ⟨by omega, by omega⟩) (fun c3 => ?_) (fun c3 => ?_)
    · refine s_aload_n dX9_renounce_26 rfl ?_
      refine s_callV (d' := d - 1) (bc' := 0) (bs' := 0) (as := []) dX9_renounce_27 vf_X9_334 (dd_ (by omega) (by decide)) ⟨Nat.zero_le _, Nat.zero_le _⟩ rfl rfl (Nat.le_of_ble_eq_true rfl) kl_7 rfl io_196 ?_
      refine c_X9_remembers M (fun hhG3 MhG3 fmhG3 thhG3 => ?_)
      have hG3 := MhG3.1
      have MR := MhG3
      have fm := fm.tr fmhG3
      have th := thhG3.trans th
      have k0 : zkeep z 0 = z 0 := zkeep_ne (by omega)
      have k1_ : zkeep z 1 = z 1 := zkeep_ne (by omega)
      have e44 := mr_f MhG3 (44 + g) (by omega) (by omega)
      rw [pm_h (by omega), k1_] at e44
      have b44 := (I.1.2.1 g (by omega) (by omega)).2
      refine s_aload_n dX9_renounce_30 rfl ?_
      refine s_getr dX9_renounce_31 fl_X9_7 kl_7 (by decide) rfl io_196 (z := 1) rfl (rf_7_1 hG3.1 io_196) (rk_7_1 io_196).1 ?_
      refine s_bipush dX9_renounce_34 (by decide) ?_
      refine s_iload_n dX9_renounce_36 rfl ?_
      refine s_iadd dX9_renounce_37 ?_
      refine s_iaload dX9_renounce_38 (rk_7_1 io_196) (by omega) (by omega) ?_
      refine s_iconst dX9_renounce_39 ?_
      refine s_icmp_ne (tgt := 47) dX9_renounce_40 (by decide) (by first | exact hG3.2 _ _ | exact hG.2 _ _ | exact b01_in _ | assumption | exact ⟨by omega, by omega⟩) (by first | exact hG3.2 _ _ | exact hG.2 _ _ | exact b01_in _ | assumption | exact ⟨by omega, by omega⟩) (fun c4 => ?_) (fun c4 => ?_)
      · refine s_iconst dX9_renounce_47 ?_
        refine s_istore_n dX9_renounce_48 (by decide) rfl (L' := [_, _, _, _]) rfl ?_
        refine s_aload_n dX9_renounce_49 rfl ?_
        refine s_getr dX9_renounce_50 fl_X9_7 kl_7 (by decide) rfl io_196 (z := 1) rfl (rf_7_1 hG3.1 io_196) (rk_7_1 io_196).1 ?_
        refine s_bipush dX9_renounce_53 (by decide) ?_
        refine s_iload_n dX9_renounce_55 rfl ?_
        refine s_iadd dX9_renounce_56 ?_
        refine s_iload_n dX9_renounce_57 rfl ?_
        refine s_if_eq (tgt := 65) dX9_renounce_58 (by decide) (by first | exact hG3.2 _ _ | exact hG.2 _ _ | exact b01_in _ | assumption | exact ⟨by omega, by omega⟩) (fun c5 => ?_) (fun c5 => ?_)
        · refine s_iconst dX9_renounce_65 ?_
          refine s_iastoreG dX9_renounce_66 (rk_7_1 io_196) (by omega) (by omega) hG3 (by first | exact hG3.2 _ _ | exact hG.2 _ _ | exact b01_in _ | assumption | exact ⟨by omega, by omega⟩) (fun hG4 => ?_)
          refine s_iload_n dX9_renounce_67 rfl ?_
          have M9 : MR_ _ (zact z (fu_ (z 1) (44 + g) v)) := mr_put MR hG4 (fun x y hx => by rw [hs_ne _ (fun w => hx w.1)]) (by rw [← k1_]; first | exact rw_put (mr_f MR) (by omega) (by omega) (pm_h (by omega)) | (rw [show v = 1 by omega]; exact rw_put (mr_f MR) (by omega) (by omega) (pm_h (by omega))) | (rw [show v = 0 by omega]; exact rw_put (mr_f MR) (by omega) (by omega) (pm_h (by omega)))) (zf_fu (zf_z.mp I.1) (by unfold zok; omega))
          have k9 := k (by omega) (by omega) _ M9 (fm.tr (fun x y hx => by rw [hs_ne _ (by omega)])) (by rw [hs_ne _ (by omega)]; exact th)
          refine s_zreturn dX9_renounce_68 rfl (by first | exact Or.inl rfl | exact Or.inr rfl) ?_
          first | (rw [b01_t (c := ¬ z 1 (44 + g) = 0) (by omega)] at k9; exact k9) | (rw [b01_f (c := ¬ z 1 (44 + g) = 0) (by omega)] at k9; exact k9)
        · refine s_iconst dX9_renounce_61 ?_
          refine s_goto (tgt := 66) dX9_renounce_62 (by decide) ?_
          refine s_iastoreG dX9_renounce_66 (rk_7_1 io_196) (by omega) (by omega) hG3 (by first | exact hG3.2 _ _ | exact hG.2 _ _ | exact b01_in _ | assumption | exact ⟨by omega, by omega⟩) (fun hG5 => ?_)
          refine s_iload_n dX9_renounce_67 rfl ?_
          have M9 : MR_ _ (zact z (fu_ (z 1) (44 + g) v)) := mr_put MR hG5 (fun x y hx => by rw [hs_ne _ (fun w => hx w.1)]) (by rw [← k1_]; first | exact rw_put (mr_f MR) (by omega) (by omega) (pm_h (by omega)) | (rw [show v = 1 by omega]; exact rw_put (mr_f MR) (by omega) (by omega) (pm_h (by omega))) | (rw [show v = 0 by omega]; exact rw_put (mr_f MR) (by omega) (by omega) (pm_h (by omega)))) (zf_fu (zf_z.mp I.1) (by unfold zok; omega))
          have k9 := k (by omega) (by omega) _ M9 (fm.tr (fun x y hx => by rw [hs_ne _ (by omega)])) (by rw [hs_ne _ (by omega)]; exact th)
          refine s_zreturn dX9_renounce_68 rfl (by first | exact Or.inl rfl | exact Or.inr rfl) ?_
          first | (rw [b01_t (c := ¬ z 1 (44 + g) = 0) (by omega)] at k9; exact k9) | (rw [b01_f (c := ¬ z 1 (44 + g) = 0) (by omega)] at k9; exact k9)
      · refine s_iconst dX9_renounce_43 ?_
        refine s_goto (tgt := 48) dX9_renounce_44 (by decide) ?_
        refine s_istore_n dX9_renounce_48 (by decide) rfl (L' := [_, _, _, _]) rfl ?_
        refine s_aload_n dX9_renounce_49 rfl ?_
        refine s_getr dX9_renounce_50 fl_X9_7 kl_7 (by decide) rfl io_196 (z := 1) rfl (rf_7_1 hG3.1 io_196) (rk_7_1 io_196).1 ?_
        refine s_bipush dX9_renounce_53 (by decide) ?_
        refine s_iload_n dX9_renounce_55 rfl ?_
        refine s_iadd dX9_renounce_56 ?_
        refine s_iload_n dX9_renounce_57 rfl ?_
        refine s_if_eq (tgt := 65) dX9_renounce_58 (by decide) (by first | exact hG3.2 _ _ | exact hG.2 _ _ | exact b01_in _ | assumption | exact ⟨by omega, by omega⟩) (fun c6 => ?_) (fun c6 => ?_)
        · refine s_iconst dX9_renounce_65 ?_
          refine s_iastoreG dX9_renounce_66 (rk_7_1 io_196) (by omega) (by omega) hG3 (by first | exact hG3.2 _ _ | exact hG.2 _ _ | exact b01_in _ | assumption | exact ⟨by omega, by omega⟩) (fun hG6 => ?_)
          refine s_iload_n dX9_renounce_67 rfl ?_
          have M9 : MR_ _ (zact z (fu_ (z 1) (44 + g) v)) := mr_put MR hG6 (fun x y hx => by rw [hs_ne _ (fun w => hx w.1)]) (by rw [← k1_]; first | exact rw_put (mr_f MR) (by omega) (by omega) (pm_h (by omega)) | (rw [show v = 1 by omega]; exact rw_put (mr_f MR) (by omega) (by omega) (pm_h (by omega))) | (rw [show v = 0 by omega]; exact rw_put (mr_f MR) (by omega) (by omega) (pm_h (by omega)))) (zf_fu (zf_z.mp I.1) (by unfold zok; omega))
          have k9 := k (by omega) (by omega) _ M9 (fm.tr (fun x y hx => by rw [hs_ne _ (by omega)])) (by rw [hs_ne _ (by omega)]; exact th)
          refine s_zreturn dX9_renounce_68 rfl (by first | exact Or.inl rfl | exact Or.inr rfl) ?_
          first | (rw [b01_t (c := ¬ z 1 (44 + g) = 0) (by omega)] at k9; exact k9) | (rw [b01_f (c := ¬ z 1 (44 + g) = 0) (by omega)] at k9; exact k9)
        · refine s_iconst dX9_renounce_61 ?_
          refine s_goto (tgt := 66) dX9_renounce_62 (by decide) ?_
          refine s_iastoreG dX9_renounce_66 (rk_7_1 io_196) (by omega) (by omega) hG3 (by first | exact hG3.2 _ _ | exact hG.2 _ _ | exact b01_in _ | assumption | exact ⟨by omega, by omega⟩) (fun hG7 => ?_)
          refine s_iload_n dX9_renounce_67 rfl ?_
          have M9 : MR_ _ (zact z (fu_ (z 1) (44 + g) v)) := mr_put MR hG7 (fun x y hx => by rw [hs_ne _ (fun w => hx w.1)]) (by rw [← k1_]; first | exact rw_put (mr_f MR) (by omega) (by omega) (pm_h (by omega)) | (rw [show v = 1 by omega]; exact rw_put (mr_f MR) (by omega) (by omega) (pm_h (by omega))) | (rw [show v = 0 by omega]; exact rw_put (mr_f MR) (by omega) (by omega) (pm_h (by omega)))) (zf_fu (zf_z.mp I.1) (by unfold zok; omega))
          have k9 := k (by omega) (by omega) _ M9 (fm.tr (fun x y hx => by rw [hs_ne _ (by omega)])) (by rw [hs_ne _ (by omega)]; exact th)
          refine s_zreturn dX9_renounce_68 rfl (by first | exact Or.inl rfl | exact Or.inr rfl) ?_
          first | (rw [b01_t (c := ¬ z 1 (44 + g) = 0) (by omega)] at k9; exact k9) | (rw [b01_f (c := ¬ z 1 (44 + g) = 0) (by omega)] at k9; exact k9)
    · exact absurd c3 (by decide)
set_option maxRecDepth 100000 in
set_option maxHeartbeats 4000000 in
theorem c_X9_set {t v : Int} (hd : 3 ≤ d) (M : MR_ h z) (ht : inI t) (hv : inI v) (k : 0 ≤ t → t < 5 → 0 ≤ v → v ≤ zmt t → MK_ Q h (zact z (fu_ (z 1) (56 + t) v)) 0 (z 1 (56 + t))) (k1 : ¬ (0 ≤ t ∧ t < 5) → MK_ Q h z 1 0) (k2 : 0 ≤ t → t < 5 → ¬ (0 ≤ v ∧ v ≤ zmt t) → MK_ Q h z 2 0) : Cl_ yX9_set MX9_set d bc bs [(2, 196), (0, t), (0, v)] nN h Q := by
  refine s_enter pn_X9 rfl (Nat.le_of_ble_eq_true rfl) (L := [(2, _), (0, _), (0, _), (9, 0)]) rfl ?_
  have hG := M.1
  have I := mr_i M
  have hT := I.2.1
  have hP := I.2.2.1
  have hN := I.2.2.2.1
  have nn := M.2.1
  have lt := inI_L ht
  have lv := inI_L hv
  have em : zmt t = if t < 2 then 99999 else if t = 2 then 240 else if t = 3 then 99 else 1 := rfl
  refine s_aload_n dX9_set_0 rfl ?_
  refine s_iload_n dX9_set_1 rfl ?_
  refine s_i2l dX9_set_2 (by first | exact hG.2 _ _ | exact b01_in _ | assumption | exact ⟨by omega, by omega⟩) ?_
  refine s_lconstz (z := 0) dX9_set_3 rfl ?_
  refine s_ldc2 dX9_set_4 kc_X9_303 ?_
  refine s_callS (d' := d - 1) (bc' := 0) (bs' := 0) (as := [_, _, _]) dX9_set_7 sf_X9_143 (dd_ (by omega) (by decide)) ⟨Nat.zero_le _, Nat.zero_le _⟩ rfl rfl (Nat.le_of_ble_eq_true rfl) ?_
  refine c_X9_isIn lt ⟨by omega, by omega⟩ ⟨by omega, by omega⟩ ?_
  refine s_if_ne (tgt := 17) dX9_set_10 (by decide) (by first | exact hG.2 _ _ | exact b01_in _ | assumption | exact ⟨by omega, by omega⟩) (fun c1 => ?_) (fun c1 => ?_)
  · have c1 := b01_n.mp c1
    refine s_iload_n dX9_set_17 rfl ?_
    refine s_i2l dX9_set_18 (by first | exact hG.2 _ _ | exact b01_in _ | assumption | exact ⟨by omega, by omega⟩) ?_
    refine s_lconstz (z := 0) dX9_set_19 rfl ?_
    refine s_iload_n dX9_set_20 rfl ?_
    refine s_iconst dX9_set_21 ?_
    refine s_icmp_ge (tgt := 31) dX9_set_22 (by decide) (by first | exact hG.2 _ _ | exact b01_in _ | assumption | exact ⟨by omega, by omega⟩) (by first | exact hG.2 _ _ | exact b01_in _ | assumption | exact ⟨by omega, by omega⟩) (fun c2 => ?_) (fun c2 => ?_)
    · refine s_iload_n dX9_set_31 rfl ?_
      refine s_iconst dX9_set_32 ?_
      refine s_icmp_ne (tgt := 42) dX9_set_33 (by decide) (by first | exact hG.2 _ _ | exact b01_in _ | assumption | exact ⟨by omega, by omega⟩) (by first | exact hG.2 _ _ | exact b01_in _ | assumption | exact ⟨by omega, by omega⟩) (fun c3 => ?_) (fun c3 => ?_)
      · refine s_iload_n dX9_set_42 rfl ?_
        refine s_iconst dX9_set_43 ?_
        refine s_icmp_ne (tgt := 53) dX9_set_44 (by decide) (by first | exact hG.2 _ _ | exact b01_in _ | assumption | exact ⟨by omega, by omega⟩) (by first | exact hG.2 _ _ | exact b01_in _ | assumption | exact ⟨by omega, by omega⟩) (fun c4 => ?_) (fun c4 => ?_)
        · refine s_lconstz (z := 1) dX9_set_53 rfl ?_
          refine s_callS (d' := d - 1) (bc' := 0) (bs' := 0) (as := [_, _, _]) dX9_set_54 sf_X9_143 (dd_ (by omega) (by decide)) ⟨Nat.zero_le _, Nat.zero_le _⟩ rfl rfl (Nat.le_of_ble_eq_true rfl) ?_
          refine c_X9_isIn lv ⟨by omega, by omega⟩ ⟨by omega, by omega⟩ ?_
          first | rw [if_pos (by omega)] at em | rw [if_neg (by omega), if_pos (by omega)] at em | rw [if_neg (by omega), if_neg (by omega), if_pos (by omega)] at em | rw [if_neg (by omega), if_neg (by omega), if_neg (by omega)] at em
          refine s_if_eq (tgt := 64) dX9_set_57 (by decide) (by first | exact hG.2 _ _ | exact b01_in _ | assumption | exact ⟨by omega, by omega⟩) (fun c5 => ?_) (fun c5 => ?_)
          · have c5 := b01_0.mp c5
            refine s_iconst dX9_set_64 ?_
            refine s_putiG 0 dX9_set_65 fl_X9_98 kl_7 (by decide) rfl rfl io_196 (z := 0) rfl (by decide +kernel) hG (by first | exact hG.2 _ _ | exact b01_in _ | assumption | exact ⟨by omega, by omega⟩) (fun hG1 => ?_)
            obtain ⟨M, fm, th⟩ := mr_th M hG1
            refine s_aload_n dX9_set_68 rfl ?_
            refine s_geti dX9_set_69 fl_X9_98 kl_7 (by decide) rfl io_196 (z := 0) rfl ?_
            rw [th]
            refine s_if_le (tgt := 77) dX9_set_72 (by decide) (by first | exact hG1.2 _ _ | exact hG.2 _ _ | exact b01_in _ | assumption | exact ⟨by omega, by omega⟩) (fun c6 => ?_) (fun c6 => ?_)
            · exact absurd c6 (by decide)
            · refine s_iconst dX9_set_75 ?_
              exact s_ireturn dX9_set_76 rfl (k2 (by omega) (by omega) (by omega) _ M fm th)
          · have c5 := b01_n.mp c5
            refine s_iconst dX9_set_60 ?_
            refine s_goto (tgt := 65) dX9_set_61 (by decide) ?_
            refine s_putiG 0 dX9_set_65 fl_X9_98 kl_7 (by decide) rfl rfl io_196 (z := 0) rfl (by decide +kernel) hG (by first | exact hG.2 _ _ | exact b01_in _ | assumption | exact ⟨by omega, by omega⟩) (fun hG2 => ?_)
            obtain ⟨M, fm, th⟩ := mr_th M hG2
            refine s_aload_n dX9_set_68 rfl ?_
            refine s_geti dX9_set_69 fl_X9_98 kl_7 (by decide) rfl io_196 (z := 0) rfl ?_
            rw [th]
            refine s_if_le (tgt := 77) dX9_set_72 (by decide) (by first | exact hG2.2 _ _ | exact hG.2 _ _ | exact b01_in _ | assumption | exact ⟨by omega, by omega⟩) (fun c7 => ?_) (fun c7 => ?_)
            · refine s_aload_n dX9_set_77 rfl ?_
              refine s_callV (d' := d - 1) (bc' := 0) (bs' := 0) (as := []) dX9_set_78 vf_X9_334 (dd_ (by omega) (by decide)) ⟨Nat.zero_le _, Nat.zero_le _⟩ rfl rfl (Nat.le_of_ble_eq_true rfl) kl_7 rfl io_196 ?_
              refine c_X9_remembers M (fun hhG3 MhG3 fmhG3 thhG3 => ?_)
              have hG3 := MhG3.1
              have MR := MhG3
              have fm := fm.tr fmhG3
              have th := thhG3.trans th
              have k0 : zkeep z 0 = z 0 := zkeep_ne (by omega)
              have k1_ : zkeep z 1 = z 1 := zkeep_ne (by omega)
              have e56 := mr_f MhG3 (56 + t) (by omega) (by omega)
              rw [pm_h (by omega), k1_] at e56
              refine s_aload_n dX9_set_81 rfl ?_
              refine s_getr dX9_set_82 fl_X9_7 kl_7 (by decide) rfl io_196 (z := 1) rfl (rf_7_1 hG3.1 io_196) (rk_7_1 io_196).1 ?_
              refine s_bipush dX9_set_85 (by decide) ?_
              refine s_iload_n dX9_set_87 rfl ?_
              refine s_iadd dX9_set_88 ?_
              refine s_iaload dX9_set_89 (rk_7_1 io_196) (by omega) (by omega) ?_
              refine s_istore_n dX9_set_90 (by decide) rfl (L' := [_, _, _, _]) rfl ?_
              refine s_aload_n dX9_set_91 rfl ?_
              refine s_getr dX9_set_92 fl_X9_7 kl_7 (by decide) rfl io_196 (z := 1) rfl (rf_7_1 hG3.1 io_196) (rk_7_1 io_196).1 ?_
              refine s_bipush dX9_set_95 (by decide) ?_
              refine s_iload_n dX9_set_97 rfl ?_
              refine s_iadd dX9_set_98 ?_
              refine s_iload_n dX9_set_99 rfl ?_
              refine s_iastoreG dX9_set_100 (rk_7_1 io_196) (by omega) (by omega) hG3 (by first | exact hG3.2 _ _ | exact hG.2 _ _ | exact b01_in _ | assumption | exact ⟨by omega, by omega⟩) (fun hG4 => ?_)
              refine s_iload_n dX9_set_101 rfl ?_
              have M9 : MR_ _ (zact z (fu_ (z 1) (56 + t) v)) := mr_put MR hG4 (fun x y hx => by rw [hs_ne _ (fun w => hx w.1)]) (by rw [← k1_]; exact rw_put (mr_f MR) (by omega) (by omega) (pm_h (by omega))) (zf_fu (zf_z.mp I.1) (by unfold zok; omega))
              rw [e56]
              exact s_ireturn dX9_set_102 rfl (k (by omega) (by omega) (by omega) (by omega) _ M9 (fm.tr (fun x y hx => by rw [hs_ne _ (by omega)])) (by rw [hs_ne _ (by omega)]; exact th))
            · exact absurd c7 (by decide)
        · refine s_ldc2 dX9_set_47 kc_X9_348 ?_
          refine s_goto (tgt := 54) dX9_set_50 (by decide) ?_
          refine s_callS (d' := d - 1) (bc' := 0) (bs' := 0) (as := [_, _, _]) dX9_set_54 sf_X9_143 (dd_ (by omega) (by decide)) ⟨Nat.zero_le _, Nat.zero_le _⟩ rfl rfl (Nat.le_of_ble_eq_true rfl) ?_
          refine c_X9_isIn lv ⟨by omega, by omega⟩ ⟨by omega, by omega⟩ ?_
          first | rw [if_pos (by omega)] at em | rw [if_neg (by omega), if_pos (by omega)] at em | rw [if_neg (by omega), if_neg (by omega), if_pos (by omega)] at em | rw [if_neg (by omega), if_neg (by omega), if_neg (by omega)] at em
          refine s_if_eq (tgt := 64) dX9_set_57 (by decide) (by first | exact hG.2 _ _ | exact b01_in _ | assumption | exact ⟨by omega, by omega⟩) (fun c8 => ?_) (fun c8 => ?_)
          · have c8 := b01_0.mp c8
            refine s_iconst dX9_set_64 ?_
            refine s_putiG 0 dX9_set_65 fl_X9_98 kl_7 (by decide) rfl rfl io_196 (z := 0) rfl (by decide +kernel) hG (by first | exact hG.2 _ _ | exact b01_in _ | assumption | exact ⟨by omega, by omega⟩) (fun hG5 => ?_)
            obtain ⟨M, fm, th⟩ := mr_th M hG5
            refine s_aload_n dX9_set_68 rfl ?_
            refine s_geti dX9_set_69 fl_X9_98 kl_7 (by decide) rfl io_196 (z := 0) rfl ?_
            rw [th]
            refine s_if_le (tgt := 77) dX9_set_72 (by decide) (by first | exact hG5.2 _ _ | exact hG.2 _ _ | exact b01_in _ | assumption | exact ⟨by omega, by omega⟩) (fun c9 => ?_) (fun c9 => ?_)
            · exact absurd c9 (by decide)
            · refine s_iconst dX9_set_75 ?_
              exact s_ireturn dX9_set_76 rfl (k2 (by omega) (by omega) (by omega) _ M fm th)
          · have c8 := b01_n.mp c8
            refine s_iconst dX9_set_60 ?_
            refine s_goto (tgt := 65) dX9_set_61 (by decide) ?_
            refine s_putiG 0 dX9_set_65 fl_X9_98 kl_7 (by decide) rfl rfl io_196 (z := 0) rfl (by decide +kernel) hG (by first | exact hG.2 _ _ | exact b01_in _ | assumption | exact ⟨by omega, by omega⟩) (fun hG6 => ?_)
            obtain ⟨M, fm, th⟩ := mr_th M hG6
            refine s_aload_n dX9_set_68 rfl ?_
            refine s_geti dX9_set_69 fl_X9_98 kl_7 (by decide) rfl io_196 (z := 0) rfl ?_
            rw [th]
            refine s_if_le (tgt := 77) dX9_set_72 (by decide) (by first | exact hG6.2 _ _ | exact hG.2 _ _ | exact b01_in _ | assumption | exact ⟨by omega, by omega⟩) (fun c10 => ?_) (fun c10 => ?_)
            · refine s_aload_n dX9_set_77 rfl ?_
              refine s_callV (d' := d - 1) (bc' := 0) (bs' := 0) (as := []) dX9_set_78 vf_X9_334 (dd_ (by omega) (by decide)) ⟨Nat.zero_le _, Nat.zero_le _⟩ rfl rfl (Nat.le_of_ble_eq_true rfl) kl_7 rfl io_196 ?_
              refine c_X9_remembers M (fun hhG7 MhG7 fmhG7 thhG7 => ?_)
              have hG7 := MhG7.1
              have MR := MhG7
              have fm := fm.tr fmhG7
              have th := thhG7.trans th
              have k0 : zkeep z 0 = z 0 := zkeep_ne (by omega)
              have k1_ : zkeep z 1 = z 1 := zkeep_ne (by omega)
              have e56 := mr_f MhG7 (56 + t) (by omega) (by omega)
              rw [pm_h (by omega), k1_] at e56
              refine s_aload_n dX9_set_81 rfl ?_
              refine s_getr dX9_set_82 fl_X9_7 kl_7 (by decide) rfl io_196 (z := 1) rfl (rf_7_1 hG7.1 io_196) (rk_7_1 io_196).1 ?_
              refine s_bipush dX9_set_85 (by decide) ?_
              refine s_iload_n dX9_set_87 rfl ?_
              refine s_iadd dX9_set_88 ?_
              refine s_iaload dX9_set_89 (rk_7_1 io_196) (by omega) (by omega) ?_
              refine s_istore_n dX9_set_90 (by decide) rfl (L' := [_, _, _, _]) rfl ?_
              refine s_aload_n dX9_set_91 rfl ?_
              refine s_getr dX9_set_92 fl_X9_7 kl_7 (by decide) rfl io_196 (z := 1) rfl (rf_7_1 hG7.1 io_196) (rk_7_1 io_196).1 ?_
              refine s_bipush dX9_set_95 (by decide) ?_
              refine s_iload_n dX9_set_97 rfl ?_
              refine s_iadd dX9_set_98 ?_
              refine s_iload_n dX9_set_99 rfl ?_
              refine s_iastoreG dX9_set_100 (rk_7_1 io_196) (by omega) (by omega) hG7 (by first | exact hG7.2 _ _ | exact hG.2 _ _ | exact b01_in _ | assumption | exact ⟨by omega, by omega⟩) (fun hG8 => ?_)
              refine s_iload_n dX9_set_101 rfl ?_
              have M9 : MR_ _ (zact z (fu_ (z 1) (56 + t) v)) := mr_put MR hG8 (fun x y hx => by rw [hs_ne _ (fun w => hx w.1)]) (by rw [← k1_]; exact rw_put (mr_f MR) (by omega) (by omega) (pm_h (by omega))) (zf_fu (zf_z.mp I.1) (by unfold zok; omega))
              rw [e56]
              exact s_ireturn dX9_set_102 rfl (k (by omega) (by omega) (by omega) (by omega) _ M9 (fm.tr (fun x y hx => by rw [hs_ne _ (by omega)])) (by rw [hs_ne _ (by omega)]; exact th))
            · exact absurd c10 (by decide)
      · refine s_ldc2 dX9_set_36 kc_X9_346 ?_
        refine s_goto (tgt := 54) dX9_set_39 (by decide) ?_
        refine s_callS (d' := d - 1) (bc' := 0) (bs' := 0) (as := [_, _, _]) dX9_set_54 sf_X9_143 (dd_ (by omega) (by decide)) ⟨Nat.zero_le _, Nat.zero_le _⟩ rfl rfl (Nat.le_of_ble_eq_true rfl) ?_
        refine c_X9_isIn lv ⟨by omega, by omega⟩ ⟨by omega, by omega⟩ ?_
        first | rw [if_pos (by omega)] at em | rw [if_neg (by omega), if_pos (by omega)] at em | rw [if_neg (by omega), if_neg (by omega), if_pos (by omega)] at em | rw [if_neg (by omega), if_neg (by omega), if_neg (by omega)] at em
        refine s_if_eq (tgt := 64) dX9_set_57 (by decide) (by first | exact hG.2 _ _ | exact b01_in _ | assumption | exact ⟨by omega, by omega⟩) (fun c11 => ?_) (fun c11 => ?_)
        · have c11 := b01_0.mp c11
          refine s_iconst dX9_set_64 ?_
          refine s_putiG 0 dX9_set_65 fl_X9_98 kl_7 (by decide) rfl rfl io_196 (z := 0) rfl (by decide +kernel) hG (by first | exact hG.2 _ _ | exact b01_in _ | assumption | exact ⟨by omega, by omega⟩) (fun hG9 => ?_)
          obtain ⟨M, fm, th⟩ := mr_th M hG9
          refine s_aload_n dX9_set_68 rfl ?_
          refine s_geti dX9_set_69 fl_X9_98 kl_7 (by decide) rfl io_196 (z := 0) rfl ?_
          rw [th]
          refine s_if_le (tgt := 77) dX9_set_72 (by decide) (by first | exact hG9.2 _ _ | exact hG.2 _ _ | exact b01_in _ | assumption | exact ⟨by omega, by omega⟩) (fun c12 => ?_) (fun c12 => ?_)
          · exact absurd c12 (by decide)
          · refine s_iconst dX9_set_75 ?_
            exact s_ireturn dX9_set_76 rfl (k2 (by omega) (by omega) (by omega) _ M fm th)
        · have c11 := b01_n.mp c11
          refine s_iconst dX9_set_60 ?_
          refine s_goto (tgt := 65) dX9_set_61 (by decide) ?_
          refine s_putiG 0 dX9_set_65 fl_X9_98 kl_7 (by decide) rfl rfl io_196 (z := 0) rfl (by decide +kernel) hG (by first | exact hG.2 _ _ | exact b01_in _ | assumption | exact ⟨by omega, by omega⟩) (fun hG10 => ?_)
          obtain ⟨M, fm, th⟩ := mr_th M hG10
          refine s_aload_n dX9_set_68 rfl ?_
          refine s_geti dX9_set_69 fl_X9_98 kl_7 (by decide) rfl io_196 (z := 0) rfl ?_
          rw [th]
          refine s_if_le (tgt := 77) dX9_set_72 (by decide) (by first | exact hG10.2 _ _ | exact hG.2 _ _ | exact b01_in _ | assumption | exact ⟨by omega, by omega⟩) (fun c13 => ?_) (fun c13 => ?_)
          · refine s_aload_n dX9_set_77 rfl ?_
            refine s_callV (d' := d - 1) (bc' := 0) (bs' := 0) (as := []) dX9_set_78 vf_X9_334 (dd_ (by omega) (by decide)) ⟨Nat.zero_le _, Nat.zero_le _⟩ rfl rfl (Nat.le_of_ble_eq_true rfl) kl_7 rfl io_196 ?_
            refine c_X9_remembers M (fun hhG11 MhG11 fmhG11 thhG11 => ?_)
            have hG11 := MhG11.1
            have MR := MhG11
            have fm := fm.tr fmhG11
            have th := thhG11.trans th
            have k0 : zkeep z 0 = z 0 := zkeep_ne (by omega)
            have k1_ : zkeep z 1 = z 1 := zkeep_ne (by omega)
            have e56 := mr_f MhG11 (56 + t) (by omega) (by omega)
            rw [pm_h (by omega), k1_] at e56
            refine s_aload_n dX9_set_81 rfl ?_
            refine s_getr dX9_set_82 fl_X9_7 kl_7 (by decide) rfl io_196 (z := 1) rfl (rf_7_1 hG11.1 io_196) (rk_7_1 io_196).1 ?_
            refine s_bipush dX9_set_85 (by decide) ?_
            refine s_iload_n dX9_set_87 rfl ?_
            refine s_iadd dX9_set_88 ?_
            refine s_iaload dX9_set_89 (rk_7_1 io_196) (by omega) (by omega) ?_
            refine s_istore_n dX9_set_90 (by decide) rfl (L' := [_, _, _, _]) rfl ?_
            refine s_aload_n dX9_set_91 rfl ?_
            refine s_getr dX9_set_92 fl_X9_7 kl_7 (by decide) rfl io_196 (z := 1) rfl (rf_7_1 hG11.1 io_196) (rk_7_1 io_196).1 ?_
            refine s_bipush dX9_set_95 (by decide) ?_
            refine s_iload_n dX9_set_97 rfl ?_
            refine s_iadd dX9_set_98 ?_
            refine s_iload_n dX9_set_99 rfl ?_
            refine s_iastoreG dX9_set_100 (rk_7_1 io_196) (by omega) (by omega) hG11 (by first | exact hG11.2 _ _ | exact hG.2 _ _ | exact b01_in _ | assumption | exact ⟨by omega, by omega⟩) (fun hG12 => ?_)
            refine s_iload_n dX9_set_101 rfl ?_
            have M9 : MR_ _ (zact z (fu_ (z 1) (56 + t) v)) := mr_put MR hG12 (fun x y hx => by rw [hs_ne _ (fun w => hx w.1)]) (by rw [← k1_]; exact rw_put (mr_f MR) (by omega) (by omega) (pm_h (by omega))) (zf_fu (zf_z.mp I.1) (by unfold zok; omega))
            rw [e56]
            exact s_ireturn dX9_set_102 rfl (k (by omega) (by omega) (by omega) (by omega) _ M9 (fm.tr (fun x y hx => by rw [hs_ne _ (by omega)])) (by rw [hs_ne _ (by omega)]; exact th))
          · exact absurd c13 (by decide)
    · refine s_ldc2 dX9_set_25 kc_X9_344 ?_
      refine s_goto (tgt := 54) dX9_set_28 (by decide) ?_
      refine s_callS (d' := d - 1) (bc' := 0) (bs' := 0) (as := [_, _, _]) dX9_set_54 sf_X9_143 (dd_ (by omega) (by decide)) ⟨Nat.zero_le _, Nat.zero_le _⟩ rfl rfl (Nat.le_of_ble_eq_true rfl) ?_
      refine c_X9_isIn lv ⟨by omega, by omega⟩ ⟨by omega, by omega⟩ ?_
      first | rw [if_pos (by omega)] at em | rw [if_neg (by omega), if_pos (by omega)] at em | rw [if_neg (by omega), if_neg (by omega), if_pos (by omega)] at em | rw [if_neg (by omega), if_neg (by omega), if_neg (by omega)] at em
      refine s_if_eq (tgt := 64) dX9_set_57 (by decide) (by first | exact hG.2 _ _ | exact b01_in _ | assumption | exact ⟨by omega, by omega⟩) (fun c14 => ?_) (fun c14 => ?_)
      · have c14 := b01_0.mp c14
        refine s_iconst dX9_set_64 ?_
        refine s_putiG 0 dX9_set_65 fl_X9_98 kl_7 (by decide) rfl rfl io_196 (z := 0) rfl (by decide +kernel) hG (by first | exact hG.2 _ _ | exact b01_in _ | assumption | exact ⟨by omega, by omega⟩) (fun hG13 => ?_)
        obtain ⟨M, fm, th⟩ := mr_th M hG13
        refine s_aload_n dX9_set_68 rfl ?_
        refine s_geti dX9_set_69 fl_X9_98 kl_7 (by decide) rfl io_196 (z := 0) rfl ?_
        rw [th]
        refine s_if_le (tgt := 77) dX9_set_72 (by decide) (by first | exact hG13.2 _ _ | exact hG.2 _ _ | exact b01_in _ | assumption | exact ⟨by omega, by omega⟩) (fun c15 => ?_) (fun c15 => ?_)
        · exact absurd c15 (by decide)
        · refine s_iconst dX9_set_75 ?_
          exact s_ireturn dX9_set_76 rfl (k2 (by omega) (by omega) (by omega) _ M fm th)
      · have c14 := b01_n.mp c14
        refine s_iconst dX9_set_60 ?_
        refine s_goto (tgt := 65) dX9_set_61 (by decide) ?_
        refine s_putiG 0 dX9_set_65 fl_X9_98 kl_7 (by decide) rfl rfl io_196 (z := 0) rfl (by decide +kernel) hG (by first | exact hG.2 _ _ | exact b01_in _ | assumption | exact ⟨by omega, by omega⟩) (fun hG14 => ?_)
        obtain ⟨M, fm, th⟩ := mr_th M hG14
        refine s_aload_n dX9_set_68 rfl ?_
        refine s_geti dX9_set_69 fl_X9_98 kl_7 (by decide) rfl io_196 (z := 0) rfl ?_
        rw [th]
        refine s_if_le (tgt := 77) dX9_set_72 (by decide) (by first | exact hG14.2 _ _ | exact hG.2 _ _ | exact b01_in _ | assumption | exact ⟨by omega, by omega⟩) (fun c16 => ?_) (fun c16 => ?_)
        · refine s_aload_n dX9_set_77 rfl ?_
          refine s_callV (d' := d - 1) (bc' := 0) (bs' := 0) (as := []) dX9_set_78 vf_X9_334 (dd_ (by omega) (by decide)) ⟨Nat.zero_le _, Nat.zero_le _⟩ rfl rfl (Nat.le_of_ble_eq_true rfl) kl_7 rfl io_196 ?_
          refine c_X9_remembers M (fun hhG15 MhG15 fmhG15 thhG15 => ?_)
          have hG15 := MhG15.1
          have MR := MhG15
          have fm := fm.tr fmhG15
          have th := thhG15.trans th
          have k0 : zkeep z 0 = z 0 := zkeep_ne (by omega)
          have k1_ : zkeep z 1 = z 1 := zkeep_ne (by omega)
          have e56 := mr_f MhG15 (56 + t) (by omega) (by omega)
          rw [pm_h (by omega), k1_] at e56
          refine s_aload_n dX9_set_81 rfl ?_
          refine s_getr dX9_set_82 fl_X9_7 kl_7 (by decide) rfl io_196 (z := 1) rfl (rf_7_1 hG15.1 io_196) (rk_7_1 io_196).1 ?_
          refine s_bipush dX9_set_85 (by decide) ?_
          refine s_iload_n dX9_set_87 rfl ?_
          refine s_iadd dX9_set_88 ?_
          refine s_iaload dX9_set_89 (rk_7_1 io_196) (by omega) (by omega) ?_
          refine s_istore_n dX9_set_90 (by decide) rfl (L' := [_, _, _, _]) rfl ?_
          refine s_aload_n dX9_set_91 rfl ?_
          refine s_getr dX9_set_92 fl_X9_7 kl_7 (by decide) rfl io_196 (z := 1) rfl (rf_7_1 hG15.1 io_196) (rk_7_1 io_196).1 ?_
          refine s_bipush dX9_set_95 (by decide) ?_
          refine s_iload_n dX9_set_97 rfl ?_
          refine s_iadd dX9_set_98 ?_
          refine s_iload_n dX9_set_99 rfl ?_
          refine s_iastoreG dX9_set_100 (rk_7_1 io_196) (by omega) (by omega) hG15 (by first | exact hG15.2 _ _ | exact hG.2 _ _ | exact b01_in _ | assumption | exact ⟨by omega, by omega⟩) (fun hG16 => ?_)
          refine s_iload_n dX9_set_101 rfl ?_
          have M9 : MR_ _ (zact z (fu_ (z 1) (56 + t) v)) := mr_put MR hG16 (fun x y hx => by rw [hs_ne _ (fun w => hx w.1)]) (by rw [← k1_]; exact rw_put (mr_f MR) (by omega) (by omega) (pm_h (by omega))) (zf_fu (zf_z.mp I.1) (by unfold zok; omega))
          rw [e56]
          exact s_ireturn dX9_set_102 rfl (k (by omega) (by omega) (by omega) (by omega) _ M9 (fm.tr (fun x y hx => by rw [hs_ne _ (by omega)])) (by rw [hs_ne _ (by omega)]; exact th))
        · exact absurd c16 (by decide)
  · have c1 := b01_0.mp c1
    refine s_iconst dX9_set_13 ?_
    refine s_goto (tgt := 65) dX9_set_14 (by decide) ?_
    refine s_putiG 0 dX9_set_65 fl_X9_98 kl_7 (by decide) rfl rfl io_196 (z := 0) rfl (by decide +kernel) hG (by first | exact hG.2 _ _ | exact b01_in _ | assumption | exact ⟨by omega, by omega⟩) (fun hG17 => ?_)
    obtain ⟨M, fm, th⟩ := mr_th M hG17
    refine s_aload_n dX9_set_68 rfl ?_
    refine s_geti dX9_set_69 fl_X9_98 kl_7 (by decide) rfl io_196 (z := 0) rfl ?_
    rw [th]
    refine s_if_le (tgt := 77) dX9_set_72 (by decide) (by first | exact hG17.2 _ _ | exact hG.2 _ _ | exact b01_in _ | assumption | exact ⟨by omega, by omega⟩) (fun c17 => ?_) (fun c17 => ?_)
    · exact absurd c17 (by decide)
    · refine s_iconst dX9_set_75 ?_
      exact s_ireturn dX9_set_76 rfl (k1 (by omega) _ M fm th)
end X9D
