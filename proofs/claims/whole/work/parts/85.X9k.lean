/-! the reference: what is passed on -/
theorem lvk_nn {n : Int} {pa dd : Int → Int} : ∀ (k : Nat) (q : Int), 0 ≤ lvk n pa dd k q
  | 0, _ => Int.le_refl _
  | k + 1, q => by
    rw [lvk]
    split
    · omega
    · exact sumI_nonneg _ _ (fun j _ _ => by
        split
        · exact lvk_nn k j
        · omega)
theorem zlv_nn {z : PH} (q : Int) : 0 ≤ zlv z q := lvk_nn 12 q
/-- what is passed on alone has changed, and whose stock lives -/
def FT_ (h h1 : PH) : Prop := ∀ x y : Int, ¬ x = 196 + 16 → ¬ x = 196 + 25 → h1 x y = h x y
theorem ft_sc {h h1 : PH} (f : FT_ h h1) : SC_ h h1 := fun x y a b => f x y (by omega) (by omega)
theorem ft_rm {h h1 z : PH} (f : FT_ h h1) (R : RM_ h z) : RM_ h1 z := by
  obtain ⟨a, b, c, e, g, i⟩ := R
  exact ⟨fun p q p0 p1 q0 q1 => by rw [f _ _ (by omega) (by omega), f _ _ (by omega) (by omega)]; exact a p q p0 p1 q0 q1, by rw [f _ _ (by omega) (by omega)]; exact b, by rw [f _ _ (by omega) (by omega)]; exact c, by rw [f _ _ (by omega) (by omega)]; exact e, by rw [f _ _ (by omega) (by omega)]; exact g, fun p p0 p1 => by rw [f _ _ (by omega) (by omega)]; exact i p p0 p1⟩
section X9K
variable {d bc bs : Nat} {Q : PQ} {h h0 z : PH}
set_option maxRecDepth 100000 in
set_option maxHeartbeats 4000000 in
theorem lp_X9_pasA {x v : Int} (M0 : MR_ h0 z) (hx : inI x) (hv : inI v) (K : ∀ (h : PH) (p : Int), G h → (∀ x y : Int, ¬ x = 196 + 25 → h x y = h0 x y) → (∀ j : Int, 0 ≤ j → j < z 0 1 → h (196 + 25) j = if j = x then v else 0) → S_ MX9_passes d bc bs Q 32 [(2, 196), (0, x), (0, v), (0, p), (9, 0), (9, 0), (9, 0)] [] nN h) : ∀ (m : Nat) (p : Int) (h : PH), (0 ≤ p) → (p + m = z 0 1) → (G h) → (∀ x y : Int, ¬ x = 196 + 25 → h x y = h0 x y) → (∀ j : Int, 0 ≤ j → j < p → h (196 + 25) j = if j = x then v else 0) → S_ MX9_passes d bc bs Q 2 [(2, 196), (0, x), (0, v), (0, p), (9, 0), (9, 0), (9, 0)] [] nN h := by
  intro m
  induction m with
  | zero =>
    intro p h p0 pm gG fr H
    have hG := gG
    have M := sc_M M0 gG (fun x y a _ => fr x y (by omega))
    have I := mr_i M
    have hT := I.2.1
    have hP := I.2.2.1
    have hN := I.2.2.2.1
    have nn := M.2.1
    refine s_iload_n dX9_passes_2 rfl ?_
    refine s_aload_n dX9_passes_3 rfl ?_
    refine s_geti dX9_passes_4 fl_X9_281 kl_7 (by decide) rfl io_196 (z := 6) rfl ?_
    refine s_icmp_ge (tgt := 32) dX9_passes_7 (by decide) (by first | exact hG.2 _ _ | exact b01_in _ | assumption | exact ⟨by omega, by omega⟩) (by first | exact hG.2 _ _ | exact b01_in _ | assumption | exact ⟨by omega, by omega⟩) (fun c1 => ?_) (fun c1 => ?_)
    · exact K h p gG fr (fun j j0 j1 => H j j0 (by omega))
    · exact absurd c1 (by omega)
  | succ m ih =>
    intro p h p0 pm gG fr H
    have hG := gG
    have M := sc_M M0 gG (fun x y a _ => fr x y (by omega))
    have I := mr_i M
    have hT := I.2.1
    have hP := I.2.2.1
    have hN := I.2.2.2.1
    have nn := M.2.1
    refine s_iload_n dX9_passes_2 rfl ?_
    refine s_aload_n dX9_passes_3 rfl ?_
    refine s_geti dX9_passes_4 fl_X9_281 kl_7 (by decide) rfl io_196 (z := 6) rfl ?_
    refine s_icmp_ge (tgt := 32) dX9_passes_7 (by decide) (by first | exact hG.2 _ _ | exact b01_in _ | assumption | exact ⟨by omega, by omega⟩) (by first | exact hG.2 _ _ | exact b01_in _ | assumption | exact ⟨by omega, by omega⟩) (fun c1 => ?_) (fun c1 => ?_)
    · exact absurd c1 (by omega)
    · refine s_aload_n dX9_passes_10 rfl ?_
      refine s_getr dX9_passes_11 fl_X9_89 kl_7 (by decide) rfl io_196 (z := 41) rfl (rf_7_41 hG.1 io_196) (rk_7_41 io_196).1 ?_
      refine s_iload_n dX9_passes_14 rfl ?_
      refine s_iload_n dX9_passes_15 rfl ?_
      refine s_iload_n dX9_passes_16 rfl ?_
      refine s_icmp_ne (tgt := 24) dX9_passes_17 (by decide) (by first | exact hG.2 _ _ | exact b01_in _ | assumption | exact ⟨by omega, by omega⟩) (by first | exact hG.2 _ _ | exact b01_in _ | assumption | exact ⟨by omega, by omega⟩) (fun c2 => ?_) (fun c2 => ?_)
      · refine s_iconst dX9_passes_24 ?_
        refine s_iastoreG dX9_passes_25 (rk_7_41 io_196) (by omega) (by omega) hG (by first | exact hG.2 _ _ | exact b01_in _ | assumption | exact ⟨by omega, by omega⟩) (fun hG1 => ?_)
        refine s_iinc dX9_passes_26 rfl (by decide) rfl (L' := [_, _, _, _, _, _, _]) rfl ?_
        refine s_goto (tgt := 2) dX9_passes_29 (by decide) ?_
        refine ih (p + 1) _ (by omega) (by omega) hG1 (fun x y a => by rw [hs_ne _ (by omega)]; exact fr x y a) (fun j j0 j1 => ?_)
        by_cases q : j = p
        · rw [q, hs_eq]
          first | exact (if_pos (by omega)).symm | exact (if_neg (by omega)).symm
        · rw [hs_ne _ (by omega)]
          exact H j j0 (by omega)
      · refine s_iload_n dX9_passes_20 rfl ?_
        refine s_goto (tgt := 25) dX9_passes_21 (by decide) ?_
        refine s_iastoreG dX9_passes_25 (rk_7_41 io_196) (by omega) (by omega) hG (by first | exact hG.2 _ _ | exact b01_in _ | assumption | exact ⟨by omega, by omega⟩) (fun hG2 => ?_)
        refine s_iinc dX9_passes_26 rfl (by decide) rfl (L' := [_, _, _, _, _, _, _]) rfl ?_
        refine s_goto (tgt := 2) dX9_passes_29 (by decide) ?_
        refine ih (p + 1) _ (by omega) (by omega) hG2 (fun x y a => by rw [hs_ne _ (by omega)]; exact fr x y a) (fun j j0 j1 => ?_)
        by_cases q : j = p
        · rw [q, hs_eq]
          first | exact (if_pos (by omega)).symm | exact (if_neg (by omega)).symm
        · rw [hs_ne _ (by omega)]
          exact H j j0 (by omega)
set_option maxRecDepth 100000 in
set_option maxHeartbeats 4000000 in
theorem lp_X9_pasB {x v q : Int} (M : MR_ h z) (q0 : 0 ≤ q) (q1 : q < z 0 1) (hL : ∀ j : Int, 0 ≤ j → j < z 0 1 → h (196 + 16) j = zlv z j) (K : ∀ i : Int, S_ MX9_passes d bc bs Q 120 [(2, 196), (0, x), (0, v), (0, q), (0, ci__ (z 2) (zlv z) q (q + 1) (z 0 1 - 1 - q).toNat), (0, i), (9, 0)] [] nN h) : ∀ (m : Nat) (i n : Int), (q + 1 ≤ i) → (i + m = z 0 1) → (n = ci__ (z 2) (zlv z) q (q + 1) (i - q - 1).toNat) → S_ MX9_passes d bc bs Q 74 [(2, 196), (0, x), (0, v), (0, q), (0, n), (0, i), (9, 0)] [] nN h := by
  intro m
  induction m with
  | zero =>
    intro i n i0 im hn
    have hG := M.1
    have I := mr_i M
    have hT := I.2.1
    have hP := I.2.2.1
    have hN := I.2.2.2.1
    have nn := M.2.1
    refine s_iload dX9_passes_74 rfl ?_
    refine s_aload_n dX9_passes_76 rfl ?_
    refine s_geti dX9_passes_77 fl_X9_281 kl_7 (by decide) rfl io_196 (z := 6) rfl ?_
    refine s_icmp_ge (tgt := 120) dX9_passes_80 (by decide) (by first | exact hG.2 _ _ | exact b01_in _ | assumption | exact ⟨by omega, by omega⟩) (by first | exact hG.2 _ _ | exact b01_in _ | assumption | exact ⟨by omega, by omega⟩) (fun c1 => ?_) (fun c1 => ?_)
    · have e9 : n = ci__ (z 2) (zlv z) q (q + 1) (z 0 1 - 1 - q).toNat := by rw [hn, show i - q - 1 = z 0 1 - 1 - q by omega]
      rw [e9]
      exact K i
    · exact absurd c1 (by omega)
  | succ m ih =>
    intro i n i0 im hn
    have hG := M.1
    have I := mr_i M
    have hT := I.2.1
    have hP := I.2.2.1
    have hN := I.2.2.2.1
    have nn := M.2.1
    refine s_iload dX9_passes_74 rfl ?_
    refine s_aload_n dX9_passes_76 rfl ?_
    refine s_geti dX9_passes_77 fl_X9_281 kl_7 (by decide) rfl io_196 (z := 6) rfl ?_
    refine s_icmp_ge (tgt := 120) dX9_passes_80 (by decide) (by first | exact hG.2 _ _ | exact b01_in _ | assumption | exact ⟨by omega, by omega⟩) (by first | exact hG.2 _ _ | exact b01_in _ | assumption | exact ⟨by omega, by omega⟩) (fun c1 => ?_) (fun c1 => ?_)
    · exact absurd c1 (by omega)
    · refine s_iload dX9_passes_83 rfl ?_
      refine s_aload_n dX9_passes_85 rfl ?_
      refine s_getr dX9_passes_86 fl_X9_25 kl_7 (by decide) rfl io_196 (z := 10) rfl (rf_7_10 hG.1 io_196) (rk_7_10 io_196).1 ?_
      refine s_iload dX9_passes_89 rfl ?_
      refine s_iaload dX9_passes_91 (rk_7_10 io_196) (by omega) (by omega) ?_
      have pp := (mr_c M i (by omega) (by omega)).1
      have wp := I.2.2.2.2.1 i (by omega) (by omega)
      rw [pp]
      refine s_iload_n dX9_passes_92 rfl ?_
      refine s_icmp_ne (tgt := 110) dX9_passes_93 (by decide) (by first | exact hG.2 _ _ | exact b01_in _ | assumption | exact ⟨by omega, by omega⟩) (by first | exact hG.2 _ _ | exact b01_in _ | assumption | exact ⟨by omega, by omega⟩) (fun c2 => ?_) (fun c2 => ?_)
      · refine s_iconst dX9_passes_110 ?_
        refine s_iadd dX9_passes_111 ?_
        refine s_istore dX9_passes_112 (by decide) rfl (L' := [_, _, _, _, _, _, _]) rfl ?_
        refine s_iinc dX9_passes_114 rfl (by decide) rfl (L' := [_, _, _, _, _, _, _]) rfl ?_
        refine s_goto (tgt := 74) dX9_passes_117 (by decide) ?_
        refine ih (i + 1) _ (by omega) (by omega) ?_
        rw [hn]
        unfold ci__
        rw [sum_up i0]
        first | rw [if_pos ⟨by omega, by omega⟩] | rw [if_neg (by omega)]
      · refine s_aload_n dX9_passes_96 rfl ?_
        refine s_getr dX9_passes_97 fl_X9_61 kl_7 (by decide) rfl io_196 (z := 28) rfl (rf_7_28 hG.1 io_196) (rk_7_28 io_196).1 ?_
        refine s_iload dX9_passes_100 rfl ?_
        refine s_iaload dX9_passes_102 (rk_7_28 io_196) (by omega) (by omega) ?_
        have ll := hL i (by omega) (by omega)
        have lb := hG.2 (196 + 16) i
        have ln := zlv_nn (z := z) i
        rw [ll] at lb ⊢
        refine s_if_le (tgt := 110) dX9_passes_103 (by decide) (by first | exact hG.2 _ _ | exact b01_in _ | assumption | exact ⟨by omega, by omega⟩) (fun c3 => ?_) (fun c3 => ?_)
        · refine s_iconst dX9_passes_110 ?_
          refine s_iadd dX9_passes_111 ?_
          refine s_istore dX9_passes_112 (by decide) rfl (L' := [_, _, _, _, _, _, _]) rfl ?_
          refine s_iinc dX9_passes_114 rfl (by decide) rfl (L' := [_, _, _, _, _, _, _]) rfl ?_
          refine s_goto (tgt := 74) dX9_passes_117 (by decide) ?_
          refine ih (i + 1) _ (by omega) (by omega) ?_
          rw [hn]
          unfold ci__
          rw [sum_up i0]
          first | rw [if_pos ⟨by omega, by omega⟩] | rw [if_neg (by omega)]
        · refine s_iconst dX9_passes_106 ?_
          refine s_goto (tgt := 111) dX9_passes_107 (by decide) ?_
          refine s_iadd dX9_passes_111 ?_
          refine s_istore dX9_passes_112 (by decide) rfl (L' := [_, _, _, _, _, _, _]) rfl ?_
          refine s_iinc dX9_passes_114 rfl (by decide) rfl (L' := [_, _, _, _, _, _, _]) rfl ?_
          refine s_goto (tgt := 74) dX9_passes_117 (by decide) ?_
          refine ih (i + 1) _ (by omega) (by omega) ?_
          rw [hn]
          unfold ci__
          rw [sum_up i0]
          first | rw [if_pos ⟨by omega, by omega⟩] | rw [if_neg (by omega)]
set_option maxRecDepth 100000 in
set_option maxHeartbeats 4000000 in
theorem lp_X9_pasC {x v q n : Int} {P : Int → Int} (M0 : MR_ h0 z) (q0 : 0 ≤ q) (q1 : q < z 0 1) (hL0 : ∀ j : Int, 0 ≤ j → j < z 0 1 → h0 (196 + 16) j = zlv z j) (hn : n = ci__ (z 2) (zlv z) q (q + 1) (z 0 1 - 1 - q).toNat) (P0 : 0 < P q ∧ P q ≤ 1000000) (hQ : ∀ j : Int, q ≤ j → j < z 0 1 → h0 (196 + 25) j = P j) (K : ∀ (h : PH) (i k : Int), G h → (∀ x y : Int, ¬ x = 196 + 25 → h x y = h0 x y) → (∀ j : Int, 0 ≤ j → j < z 0 1 → h (196 + 25) j = if q < j then ds_ (z 0 1) (z 2) (zlv z) P q j else h0 (196 + 25) j) → S_ MX9_passes d bc bs Q 206 [(2, 196), (0, x), (0, v), (0, q), (0, n), (0, k), (0, i)] [] nN h) : ∀ (m : Nat) (i k : Int) (h : PH), (q + 1 ≤ i) → (i + m = z 0 1) → (k = ci__ (z 2) (zlv z) q (q + 1) (i - q - 1).toNat) → (G h) → (∀ x y : Int, ¬ x = 196 + 25 → h x y = h0 x y) → (∀ j : Int, 0 ≤ j → j < z 0 1 → h (196 + 25) j = if q < j ∧ j < i then ds_ (z 0 1) (z 2) (zlv z) P q j else h0 (196 + 25) j) → S_ MX9_passes d bc bs Q 128 [(2, 196), (0, x), (0, v), (0, q), (0, n), (0, k), (0, i)] [] nN h := by
  intro m
  induction m with
  | zero =>
    intro i k h i0 im hk gG fr H
    have hG := gG
    have M := sc_M M0 gG (fun x y a _ => fr x y (by omega))
    have I := mr_i M
    have hT := I.2.1
    have hP := I.2.2.1
    have hN := I.2.2.2.1
    have nn := M.2.1
    have hL : ∀ j : Int, 0 ≤ j → j < z 0 1 → h (196 + 16) j = zlv z j := fun j a b => (fr _ _ (by omega)).trans (hL0 j a b)
    have hq : h (196 + 25) q = P q := by rw [H q q0 q1, if_neg (by omega)]; exact hQ q (Int.le_refl _) q1
    have nv : i < z 0 1 → z 2 i = q ∧ 0 < zlv z i → 1 ≤ n := fun c e => by rw [hn]; exact ci_ge e i0 (by omega)
    have dv : 0 ≤ (P q).tdiv n ∧ (P q).tdiv n ≤ 1000000 ∧ inI ((P q).tmod n) := by
      refine ⟨?_, ?_, tmod_inI ⟨by omega, by omega⟩⟩
      · have nn0 := ci_nn (z 2) (zlv z) q (q + 1) (z 0 1 - 1 - q).toNat
        rw [Int.tdiv_eq_ediv_of_nonneg (by omega)]
        exact Int.ediv_nonneg (by omega) (by omega)
      · rw [Int.tdiv_eq_ediv_of_nonneg (by omega)]
        have := Int.ediv_le_self n (show 0 ≤ P q by omega)
        omega
    have dm : inI ((P q).tmod n) := dv.2.2
    have nb := ci_bd (z 2) (zlv z) q (q + 1) (z 0 1 - 1 - q).toNat
    have n0 := ci_nn (z 2) (zlv z) q (q + 1) (z 0 1 - 1 - q).toNat
    have kb := ci_bd (z 2) (zlv z) q (q + 1) (i - q - 1).toNat
    have k0 := ci_nn (z 2) (zlv z) q (q + 1) (i - q - 1).toNat
    refine s_iload dX9_passes_128 rfl ?_
    refine s_aload_n dX9_passes_130 rfl ?_
    refine s_geti dX9_passes_131 fl_X9_281 kl_7 (by decide) rfl io_196 (z := 6) rfl ?_
    refine s_icmp_ge (tgt := 206) dX9_passes_134 (by decide) (by first | exact hG.2 _ _ | exact b01_in _ | assumption | exact ⟨by omega, by omega⟩) (by first | exact hG.2 _ _ | exact b01_in _ | assumption | exact ⟨by omega, by omega⟩) (fun c1 => ?_) (fun c1 => ?_)
    · refine K h i k gG fr (fun j j0 j1 => ?_)
      rw [H j j0 j1]
      by_cases c : q < j
      · rw [if_pos ⟨c, by omega⟩, if_pos c]
      · rw [if_neg (by omega), if_neg c]
    · exact absurd c1 (by omega)
  | succ m ih =>
    intro i k h i0 im hk gG fr H
    have hG := gG
    have M := sc_M M0 gG (fun x y a _ => fr x y (by omega))
    have I := mr_i M
    have hT := I.2.1
    have hP := I.2.2.1
    have hN := I.2.2.2.1
    have nn := M.2.1
    have hL : ∀ j : Int, 0 ≤ j → j < z 0 1 → h (196 + 16) j = zlv z j := fun j a b => (fr _ _ (by omega)).trans (hL0 j a b)
    have hq : h (196 + 25) q = P q := by rw [H q q0 q1, if_neg (by omega)]; exact hQ q (Int.le_refl _) q1
    have nv : i < z 0 1 → z 2 i = q ∧ 0 < zlv z i → 1 ≤ n := fun c e => by rw [hn]; exact ci_ge e i0 (by omega)
    have dv : 0 ≤ (P q).tdiv n ∧ (P q).tdiv n ≤ 1000000 ∧ inI ((P q).tmod n) := by
      refine ⟨?_, ?_, tmod_inI ⟨by omega, by omega⟩⟩
      · have nn0 := ci_nn (z 2) (zlv z) q (q + 1) (z 0 1 - 1 - q).toNat
        rw [Int.tdiv_eq_ediv_of_nonneg (by omega)]
        exact Int.ediv_nonneg (by omega) (by omega)
      · rw [Int.tdiv_eq_ediv_of_nonneg (by omega)]
        have := Int.ediv_le_self n (show 0 ≤ P q by omega)
        omega
    have dm : inI ((P q).tmod n) := dv.2.2
    have nb := ci_bd (z 2) (zlv z) q (q + 1) (z 0 1 - 1 - q).toNat
    have n0 := ci_nn (z 2) (zlv z) q (q + 1) (z 0 1 - 1 - q).toNat
    have kb := ci_bd (z 2) (zlv z) q (q + 1) (i - q - 1).toNat
    have k0 := ci_nn (z 2) (zlv z) q (q + 1) (i - q - 1).toNat
    refine s_iload dX9_passes_128 rfl ?_
    refine s_aload_n dX9_passes_130 rfl ?_
    refine s_geti dX9_passes_131 fl_X9_281 kl_7 (by decide) rfl io_196 (z := 6) rfl ?_
    refine s_icmp_ge (tgt := 206) dX9_passes_134 (by decide) (by first | exact hG.2 _ _ | exact b01_in _ | assumption | exact ⟨by omega, by omega⟩) (by first | exact hG.2 _ _ | exact b01_in _ | assumption | exact ⟨by omega, by omega⟩) (fun c1 => ?_) (fun c1 => ?_)
    · exact absurd c1 (by omega)
    · refine s_aload_n dX9_passes_137 rfl ?_
      refine s_getr dX9_passes_138 fl_X9_25 kl_7 (by decide) rfl io_196 (z := 10) rfl (rf_7_10 hG.1 io_196) (rk_7_10 io_196).1 ?_
      refine s_iload dX9_passes_141 rfl ?_
      refine s_iaload dX9_passes_143 (rk_7_10 io_196) (by omega) (by omega) ?_
      have pp := (mr_c M i (by omega) (by omega)).1
      have wp := I.2.2.2.2.1 i (by omega) (by omega)
      rw [pp]
      refine s_iload_n dX9_passes_144 rfl ?_
      refine s_icmp_ne (tgt := 200) dX9_passes_145 (by decide) (by first | exact hG.2 _ _ | exact b01_in _ | assumption | exact ⟨by omega, by omega⟩) (by first | exact hG.2 _ _ | exact b01_in _ | assumption | exact ⟨by omega, by omega⟩) (fun c2 => ?_) (fun c2 => ?_)
      · refine s_iinc dX9_passes_200 rfl (by decide) rfl (L' := [_, _, _, _, _, _, _]) rfl ?_
        refine s_goto (tgt := 128) dX9_passes_203 (by decide) ?_
        refine ih (i + 1) _ _ (by omega) (by omega) ?_ gG fr (fun j j0 j1 => ?_)
        · rw [hk]
          unfold ci__
          rw [sum_up i0, if_neg (by omega)]
          omega
        · rw [H j j0 j1]
          by_cases c : j = i
          · rw [c, if_neg (by omega), if_pos ⟨by omega, by omega⟩, hQ i (by omega) (by omega)]
            unfold ds_
            rw [if_neg (by omega)]
          · by_cases c2 : q < j ∧ j < i
            · rw [if_pos c2, if_pos ⟨c2.1, by omega⟩]
            · rw [if_neg c2, if_neg (by omega)]
      · refine s_aload_n dX9_passes_148 rfl ?_
        refine s_getr dX9_passes_149 fl_X9_61 kl_7 (by decide) rfl io_196 (z := 28) rfl (rf_7_28 hG.1 io_196) (rk_7_28 io_196).1 ?_
        refine s_iload dX9_passes_152 rfl ?_
        refine s_iaload dX9_passes_154 (rk_7_28 io_196) (by omega) (by omega) ?_
        have ll := hL i (by omega) (by omega)
        have lb := hG.2 (196 + 16) i
        have ln := zlv_nn (z := z) i
        rw [ll] at lb ⊢
        refine s_if_ne (tgt := 161) dX9_passes_155 (by decide) (by first | exact hG.2 _ _ | exact b01_in _ | assumption | exact ⟨by omega, by omega⟩) (fun c3 => ?_) (fun c3 => ?_)
        · refine s_aload_n dX9_passes_161 rfl ?_
          refine s_getr dX9_passes_162 fl_X9_89 kl_7 (by decide) rfl io_196 (z := 41) rfl (rf_7_41 hG.1 io_196) (rk_7_41 io_196).1 ?_
          refine s_iload dX9_passes_165 rfl ?_
          refine s_aload_n dX9_passes_167 rfl ?_
          refine s_getr dX9_passes_168 fl_X9_89 kl_7 (by decide) rfl io_196 (z := 41) rfl (rf_7_41 hG.1 io_196) (rk_7_41 io_196).1 ?_
          refine s_iload_n dX9_passes_171 rfl ?_
          refine s_iaload dX9_passes_172 (rk_7_41 io_196) (by omega) (by omega) ?_
          rw [hq]
          refine s_iload dX9_passes_173 rfl ?_
          refine s_idiv dX9_passes_175 (by first | exact hG.2 _ _ | exact b01_in _ | assumption | exact ⟨by omega, by omega⟩) (by first | exact hG.2 _ _ | exact b01_in _ | assumption | exact ⟨by omega, by omega⟩) (by omega) (by omega) ?_
          refine s_iload dX9_passes_176 rfl ?_
          refine s_aload_n dX9_passes_178 rfl ?_
          refine s_getr dX9_passes_179 fl_X9_89 kl_7 (by decide) rfl io_196 (z := 41) rfl (rf_7_41 hG.1 io_196) (rk_7_41 io_196).1 ?_
          refine s_iload_n dX9_passes_182 rfl ?_
          refine s_iaload dX9_passes_183 (rk_7_41 io_196) (by omega) (by omega) ?_
          rw [hq]
          refine s_iload dX9_passes_184 rfl ?_
          refine s_irem dX9_passes_186 (by first | exact hG.2 _ _ | exact b01_in _ | assumption | exact ⟨by omega, by omega⟩) (by first | exact hG.2 _ _ | exact b01_in _ | assumption | exact ⟨by omega, by omega⟩) (by omega) (by omega) ?_
          refine s_icmp_ge (tgt := 194) dX9_passes_187 (by decide) (by first | exact hG.2 _ _ | exact b01_in _ | assumption | exact ⟨by omega, by omega⟩) (by first | exact hG.2 _ _ | exact b01_in _ | assumption | exact ⟨by omega, by omega⟩) (fun c4 => ?_) (fun c4 => ?_)
          · refine s_iconst dX9_passes_194 ?_
            refine s_iadd dX9_passes_195 ?_
            refine s_iastoreG dX9_passes_196 (rk_7_41 io_196) (by omega) (by omega) hG (by first | exact hG.2 _ _ | exact b01_in _ | assumption | exact ⟨by omega, by omega⟩) (fun hG1 => ?_)
            refine s_iinc dX9_passes_197 rfl (by decide) rfl (L' := [_, _, _, _, _, _, _]) rfl ?_
            refine s_iinc dX9_passes_200 rfl (by decide) rfl (L' := [_, _, _, _, _, _, _]) rfl ?_
            refine s_goto (tgt := 128) dX9_passes_203 (by decide) ?_
            refine ih (i + 1) _ _ (by omega) (by omega) ?_ hG1 (fun x y a => by rw [hs_ne _ (by omega)]; exact fr x y a) (fun j j0 j1 => ?_)
            · rw [hk]
              unfold ci__
              rw [sum_up i0, if_pos ⟨by omega, by omega⟩]
            · by_cases c : j = i
              · rw [c, hs_eq, if_pos ⟨by omega, by omega⟩]
                unfold ds_
                rw [if_pos ⟨by omega, by omega, by omega, by omega⟩, ← hn, show i - q - 1 = i - q - 1 from rfl, ← hk]
                first | rw [if_pos (by omega)] | rw [if_neg (by omega)]
              · rw [hs_ne _ (by omega), H j j0 j1]
                by_cases c2 : q < j ∧ j < i
                · rw [if_pos c2, if_pos ⟨c2.1, by omega⟩]
                · rw [if_neg c2, if_neg (by omega)]
          · refine s_iconst dX9_passes_190 ?_
            refine s_goto (tgt := 195) dX9_passes_191 (by decide) ?_
            refine s_iadd dX9_passes_195 ?_
            refine s_iastoreG dX9_passes_196 (rk_7_41 io_196) (by omega) (by omega) hG (by first | exact hG.2 _ _ | exact b01_in _ | assumption | exact ⟨by omega, by omega⟩) (fun hG2 => ?_)
            refine s_iinc dX9_passes_197 rfl (by decide) rfl (L' := [_, _, _, _, _, _, _]) rfl ?_
            refine s_iinc dX9_passes_200 rfl (by decide) rfl (L' := [_, _, _, _, _, _, _]) rfl ?_
            refine s_goto (tgt := 128) dX9_passes_203 (by decide) ?_
            refine ih (i + 1) _ _ (by omega) (by omega) ?_ hG2 (fun x y a => by rw [hs_ne _ (by omega)]; exact fr x y a) (fun j j0 j1 => ?_)
            · rw [hk]
              unfold ci__
              rw [sum_up i0, if_pos ⟨by omega, by omega⟩]
            · by_cases c : j = i
              · rw [c, hs_eq, if_pos ⟨by omega, by omega⟩]
                unfold ds_
                rw [if_pos ⟨by omega, by omega, by omega, by omega⟩, ← hn, show i - q - 1 = i - q - 1 from rfl, ← hk]
                first | rw [if_pos (by omega)] | rw [if_neg (by omega)]
              · rw [hs_ne _ (by omega), H j j0 j1]
                by_cases c2 : q < j ∧ j < i
                · rw [if_pos c2, if_pos ⟨c2.1, by omega⟩]
                · rw [if_neg c2, if_neg (by omega)]
        · refine s_goto (tgt := 200) dX9_passes_158 (by decide) ?_
          refine s_iinc dX9_passes_200 rfl (by decide) rfl (L' := [_, _, _, _, _, _, _]) rfl ?_
          refine s_goto (tgt := 128) dX9_passes_203 (by decide) ?_
          refine ih (i + 1) _ _ (by omega) (by omega) ?_ gG fr (fun j j0 j1 => ?_)
          · rw [hk]
            unfold ci__
            rw [sum_up i0, if_neg (by omega)]
            omega
          · rw [H j j0 j1]
            by_cases c : j = i
            · rw [c, if_neg (by omega), if_pos ⟨by omega, by omega⟩, hQ i (by omega) (by omega)]
              unfold ds_
              rw [if_neg (by omega)]
            · by_cases c2 : q < j ∧ j < i
              · rw [if_pos c2, if_pos ⟨c2.1, by omega⟩]
              · rw [if_neg c2, if_neg (by omega)]
set_option maxRecDepth 100000 in
set_option maxHeartbeats 4000000 in
theorem lp_X9_pasO {x v : Int} {R : Int → Int} (hd : 1 ≤ d) (M0 : MR_ h0 z) (hL0 : ∀ j : Int, 0 ≤ j → j < z 0 1 → h0 (196 + 16) j = zlv z j) (k : ∀ h : PH, G h → FT_ h0 h → (∀ p : Int, 0 ≤ p → p < z 0 1 → h (196 + 25) p = if zdd z p = 0 then R p else 0) → Q.1 none nN h) : ∀ (m : Nat) (q : Int) (P : Int → Int) (h : PH), (0 ≤ q) → (q + m = z 0 1) → (G h) → (∀ x y : Int, ¬ x = 196 + 25 → h x y = h0 x y) → (∀ p : Int, 0 ≤ p → p < z 0 1 → h (196 + 25) p = if p < q ∧ ¬ zdd z p = 0 then 0 else P p) → (∀ p : Int, 0 ≤ p → p < z 0 1 → 0 ≤ P p ∧ P p ≤ 1000000) → (∀ p : Int, 0 ≤ p → p < z 0 1 → ps_ (z 0 1) (z 2) (zdd z) (zlv z) m q P p = R p) → S_ MX9_passes d bc bs Q 38 [(2, 196), (0, x), (0, v), (0, q), (9, 0), (9, 0), (9, 0)] [] nN h := by
  intro m
  induction m with
  | zero =>
    intro q P h q0 qm gG fr H hb hR
    have hG := gG
    have M := sc_M M0 gG (fun x y a _ => fr x y (by omega))
    have I := mr_i M
    have hT := I.2.1
    have hP := I.2.2.1
    have hN := I.2.2.2.1
    have nn := M.2.1
    have hL : ∀ j : Int, 0 ≤ j → j < z 0 1 → h (196 + 16) j = zlv z j := fun j a b => (fr _ _ (by omega)).trans (hL0 j a b)
    have hq : q < z 0 1 → h (196 + 25) q = P q ∧ 0 ≤ P q ∧ P q ≤ 1000000 := fun c => ⟨by rw [H q q0 c, if_neg (by omega)], hb q q0 c⟩
    refine s_iload_n dX9_passes_38 rfl ?_
    refine s_aload_n dX9_passes_39 rfl ?_
    refine s_geti dX9_passes_40 fl_X9_281 kl_7 (by decide) rfl io_196 (z := 6) rfl ?_
    refine s_icmp_ge (tgt := 219) dX9_passes_43 (by decide) (by first | exact hG.2 _ _ | exact b01_in _ | assumption | exact ⟨by omega, by omega⟩) (by first | exact hG.2 _ _ | exact b01_in _ | assumption | exact ⟨by omega, by omega⟩) (fun c1 => ?_) (fun c1 => ?_)
    · refine s_return dX9_passes_219 rfl (k h gG (fun x y _ b => fr x y b) (fun p p0 p1 => ?_))
      rw [H p p0 p1, ← hR p p0 p1]
      by_cases c : zdd z p = 0
      · rw [if_neg (by omega), if_pos c]
        rfl
      · rw [if_pos ⟨by omega, c⟩, if_neg c]
    · exact absurd c1 (by omega)
  | succ m ih =>
    intro q P h q0 qm gG fr H hb hR
    have hG := gG
    have M := sc_M M0 gG (fun x y a _ => fr x y (by omega))
    have I := mr_i M
    have hT := I.2.1
    have hP := I.2.2.1
    have hN := I.2.2.2.1
    have nn := M.2.1
    have hL : ∀ j : Int, 0 ≤ j → j < z 0 1 → h (196 + 16) j = zlv z j := fun j a b => (fr _ _ (by omega)).trans (hL0 j a b)
    have hq : q < z 0 1 → h (196 + 25) q = P q ∧ 0 ≤ P q ∧ P q ≤ 1000000 := fun c => ⟨by rw [H q q0 c, if_neg (by omega)], hb q q0 c⟩
    refine s_iload_n dX9_passes_38 rfl ?_
    refine s_aload_n dX9_passes_39 rfl ?_
    refine s_geti dX9_passes_40 fl_X9_281 kl_7 (by decide) rfl io_196 (z := 6) rfl ?_
    refine s_icmp_ge (tgt := 219) dX9_passes_43 (by decide) (by first | exact hG.2 _ _ | exact b01_in _ | assumption | exact ⟨by omega, by omega⟩) (by first | exact hG.2 _ _ | exact b01_in _ | assumption | exact ⟨by omega, by omega⟩) (fun c1 => ?_) (fun c1 => ?_)
    · exact absurd c1 (by omega)
    · refine s_aload_n dX9_passes_46 rfl ?_
      refine s_iload_n dX9_passes_47 rfl ?_
      refine s_callV (d' := d - 1) (bc' := 0) (bs' := 0) (as := [_]) dX9_passes_48 vf_X9_308 (dd_ (by omega) (by decide)) ⟨Nat.zero_le _, Nat.zero_le _⟩ rfl rfl (Nat.le_of_ble_eq_true rfl) kl_7 rfl io_196 ?_
      refine c_X9_isDead M q0 (by omega) ?_
      refine s_if_eq (tgt := 213) dX9_passes_51 (by decide) (by first | exact hG.2 _ _ | exact b01_in _ | assumption | exact ⟨by omega, by omega⟩) (fun c2 => ?_) (fun c2 => ?_)
      · have c2 := b01_0.mp c2
        refine s_iinc dX9_passes_213 rfl (by decide) rfl (L' := [_, _, _, _, _, _, _]) rfl ?_
        refine s_goto (tgt := 38) dX9_passes_216 (by decide) ?_
        refine ih (q + 1) P _ (by omega) (by omega) hG fr (fun p p0 p1 => ?_) hb (fun p p0 p1 => by have w := hR p p0 p1; rw [ps_, if_neg (by omega)] at w; exact w)
        rw [H p p0 p1]
        by_cases c : p < q ∧ ¬ zdd z p = 0
        · rw [if_pos c, if_pos ⟨by omega, c.2⟩]
        · rw [if_neg c]
          by_cases c2 : p < q + 1 ∧ ¬ zdd z p = 0
          · have e : p = q := by omega
            rw [if_pos c2, e]
            rw [e] at c2
            omega
          · rw [if_neg c2]
      · have c2 := b01_n.mp c2
        refine s_aload_n dX9_passes_54 rfl ?_
        refine s_getr dX9_passes_55 fl_X9_89 kl_7 (by decide) rfl io_196 (z := 41) rfl (rf_7_41 hG.1 io_196) (rk_7_41 io_196).1 ?_
        refine s_iload_n dX9_passes_58 rfl ?_
        refine s_iaload dX9_passes_59 (rk_7_41 io_196) (by omega) (by omega) ?_
        have hq := hq (by omega)
        rw [hq.1]
        refine s_if_ne (tgt := 66) dX9_passes_60 (by decide) (by first | exact hG.2 _ _ | exact b01_in _ | assumption | exact ⟨by omega, by omega⟩) (fun c3 => ?_) (fun c3 => ?_)
        · refine s_iconst dX9_passes_66 ?_
          refine s_istore dX9_passes_67 (by decide) rfl (L' := [_, _, _, _, _, _, _]) rfl ?_
          refine s_iload_n dX9_passes_69 rfl ?_
          refine s_iconst dX9_passes_70 ?_
          refine s_iadd dX9_passes_71 ?_
          refine s_istore dX9_passes_72 (by decide) rfl (L' := [_, _, _, _, _, _, _]) rfl ?_
          refine lp_X9_pasB M q0 (by omega) hL (fun i9 => ?_) (z 0 1 - 1 - q).toNat (q + 1) 0 (Int.le_refl _) (by omega) (by rw [show q + 1 - q - 1 = 0 by omega]; rfl)
          refine s_iconst dX9_passes_120 ?_
          refine s_istore dX9_passes_121 (by decide) rfl (L' := [_, _, _, _, _, _, _]) rfl ?_
          refine s_iload_n dX9_passes_123 rfl ?_
          refine s_iconst dX9_passes_124 ?_
          refine s_iadd dX9_passes_125 ?_
          refine s_istore dX9_passes_126 (by decide) rfl (L' := [_, _, _, _, _, _, _]) rfl ?_
          refine lp_X9_pasC (P := P) M q0 (by omega) hL rfl ⟨by omega, (hb q q0 (by omega)).2⟩ (fun j j0 j1 => by rw [H j (by omega) j1, if_neg (by omega)]) (fun h2 i2 k2 g2 f2 H2 => ?_) (z 0 1 - 1 - q).toNat (q + 1) 0 h (Int.le_refl _) (by omega) (by rw [show q + 1 - q - 1 = 0 by omega]; rfl) gG (fun _ _ _ => rfl) (fun j j0 j1 => by rw [if_neg (by omega)])
          have hG := g2
          refine s_aload_n dX9_passes_206 rfl ?_
          refine s_getr dX9_passes_207 fl_X9_89 kl_7 (by decide) rfl io_196 (z := 41) rfl (rf_7_41 hG.1 io_196) (rk_7_41 io_196).1 ?_
          refine s_iload_n dX9_passes_210 rfl ?_
          refine s_iconst dX9_passes_211 ?_
          refine s_iastoreG dX9_passes_212 (rk_7_41 io_196) (by omega) (by omega) hG (by first | exact hG.2 _ _ | exact b01_in _ | assumption | exact ⟨by omega, by omega⟩) (fun hG1 => ?_)
          refine s_iinc dX9_passes_213 rfl (by decide) rfl (L' := [_, _, _, _, _, _, _]) rfl ?_
          refine s_goto (tgt := 38) dX9_passes_216 (by decide) ?_
          refine s_fg (L' := [(2, 196), (0, x), (0, v), (0, q + 1), (9, 0), (9, 0), (9, 0)]) ⟨Or.inr rfl, Or.inr rfl, Or.inr rfl, Or.inr rfl, Or.inl rfl, Or.inl rfl, Or.inl rfl, trivial⟩ ?_
          refine ih (q + 1) (ds_ (z 0 1) (z 2) (zlv z) P q) _ (by omega) (by omega) hG1 (fun x y b => by rw [hs_ne _ (by omega), f2 x y b]; exact fr x y b) (fun p p0 p1 => ?_) (ds_bd q0 (by omega) hb) (fun p p0 p1 => by have w := hR p p0 p1; rw [ps_, if_pos ⟨by omega, by omega⟩] at w; exact w)
          by_cases c : p = q
          · rw [c, hs_eq, if_pos ⟨by omega, by omega⟩]
          · rw [hs_ne _ (by omega), H2 p p0 p1]
            by_cases c2 : q < p
            · rw [if_pos c2, if_neg (by omega)]
            · rw [if_neg c2, H p p0 p1, ds_le (by omega)]
              by_cases c3 : p < q ∧ ¬ zdd z p = 0
              · rw [if_pos c3, if_pos ⟨by omega, c3.2⟩]
              · rw [if_neg c3, if_neg (by omega)]
        · refine s_goto (tgt := 213) dX9_passes_63 (by decide) ?_
          refine s_iinc dX9_passes_213 rfl (by decide) rfl (L' := [_, _, _, _, _, _, _]) rfl ?_
          refine s_goto (tgt := 38) dX9_passes_216 (by decide) ?_
          refine ih (q + 1) P _ (by omega) (by omega) hG fr (fun p p0 p1 => ?_) hb (fun p p0 p1 => by have w := hR p p0 p1; rw [ps_, if_neg (by omega)] at w; exact w)
          rw [H p p0 p1]
          by_cases c : p < q ∧ ¬ zdd z p = 0
          · rw [if_pos c, if_pos ⟨by omega, c.2⟩]
          · rw [if_neg c]
            by_cases c2 : p < q + 1 ∧ ¬ zdd z p = 0
            · have e : p = q := by omega
              rw [if_pos c2, e]
              rw [e] at c2
              omega
            · rw [if_neg c2]
set_option maxRecDepth 100000 in
set_option maxHeartbeats 4000000 in
theorem c_X9_passes {x v : Int} (hd : 3 ≤ d) (M : MR_ h z) (x0 : 0 ≤ x) (x1 : x < z 0 1) (v0 : 0 ≤ v) (v1 : v ≤ 1000000) (k : ∀ h1 : PH, G h1 → FT_ h h1 → (∀ p : Int, 0 ≤ p → p < z 0 1 → h1 (196 + 25) p = pv_ (z 0 1) (z 2) (zdd z) (zlv z) v x p) → Q.1 none nN h1) : Cl_ yX9_passes MX9_passes d bc bs [(2, 196), (0, x), (0, v)] nN h Q := by
  refine s_enter pn_X9 rfl (Nat.le_of_ble_eq_true rfl) (L := [(2, _), (0, _), (0, _), (9, 0), (9, 0), (9, 0), (9, 0)]) rfl ?_
  have hG := M.1
  have I := mr_i M
  have hT := I.2.1
  have hP := I.2.2.1
  have hN := I.2.2.2.1
  have nn := M.2.1
  refine s_iconst dX9_passes_0 ?_
  refine s_istore_n dX9_passes_1 (by decide) rfl (L' := [_, _, _, _, _, _, _]) rfl ?_
  refine lp_X9_pasA (h0 := h) (z := z) M ⟨by omega, by omega⟩ ⟨by omega, by omega⟩ (fun hA pA gA fA HA => ?_) (z 0 1).toNat 0 h (Int.le_refl _) (by omega) hG (fun _ _ _ => rfl) (fun j j0 j1 => by omega)
  have hG := gA
  have M := sc_M M gA (fun x y a _ => fA x y (by omega))
  refine s_aload_n dX9_passes_32 rfl ?_
  refine s_callV (d' := d - 1) (bc' := 0) (bs' := 0) (as := []) dX9_passes_33 vf_X9_311 (dd_ (by omega) (by decide)) ⟨Nat.zero_le _, Nat.zero_le _⟩ rfl rfl (Nat.le_of_ble_eq_true rfl) kl_7 rfl io_196 ?_
  refine c_X9_laysStocks (by omega) M (fun hS gS fS lS => ?_)
  have hG1 := gS
  have M := sc_M M gS (sc_16 fS)
  refine s_iload_n dX9_passes_36 rfl ?_
  refine s_istore_n dX9_passes_37 (by decide) rfl (L' := [_, _, _, _, _, _, _]) rfl ?_
  refine lp_X9_pasO (h0 := hS) (R := ps_ (z 0 1) (z 2) (zdd z) (zlv z) (z 0 1 - x).toNat x (fun y => if y = x then v else 0)) (by omega) M lS (fun h1 g1 f1 H1 => ?_) (z 0 1 - x).toNat x (fun y => if y = x then v else 0) hS x0 (by omega) gS (fun _ _ _ => rfl) (fun p p0 p1 => ?_) (fun p p0 p1 => ?_) (fun p p0 p1 => rfl)
  · refine k h1 g1 (fun a b p q => (f1 a b p q).trans ((fS a b p).trans (fA a b q))) (fun p p0 p1 => ?_)
    rw [H1 p p0 p1]
    rfl
  · rw [fS _ _ (by omega), HA p p0 p1]
    show (if p = x then v else 0) = (if p < x ∧ ¬ zdd z p = 0 then 0 else if p = x then v else 0)
    by_cases c : p = x
    · rw [if_pos c, if_neg (by omega)]
    · rw [if_neg c]
      split <;> rfl
  · show 0 ≤ (if p = x then v else 0) ∧ (if p = x then v else 0) ≤ 1000000
    split <;> omega
end X9K
