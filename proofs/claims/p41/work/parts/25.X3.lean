/-! WillHouse$Names: how long each name is stands one behind the object, its letters in the rows from three behind; how many: its place 1 -/
section X3
variable {d bc bs : Nat} {Q : PQ} {h : PH} {a : Int}
set_option maxRecDepth 100000 in
set_option maxHeartbeats 4000000 in
theorem lp_X3_isSame {nm b p n : Int} (A : isA nN nm 1 6) (B : isA nN b 1 400) (hG : G h) (p0 : 0 ≤ p) (hn : n ≤ 6) (hp : p + n ≤ 400) (k : Q.1 (some (0, b01 (∀ j : Int, 0 ≤ j → j < n → h nm j = h b (p + j)))) nN h) : ∀ (m : Nat) (i : Int), 0 ≤ i → i + m = n → (∀ j : Int, 0 ≤ j → j < i → h nm j = h b (p + j)) → S_ MX3_isSame d bc bs Q 3 [(2, nm), (2, b), (0, p), (0, n), (0, i)] [] nN h := by
  intro m
  induction m with
  | zero =>
    intro i i0 i1 he
    refine s_iload dX3_isSame_3 rfl ?_
    refine s_iload_n dX3_isSame_5 rfl ?_
    refine s_icmp_ge (tgt := 30) dX3_isSame_6 (by decide) (by first | exact hG.2 _ _ | exact b01_in _ | assumption | exact ⟨by omega, by omega⟩) (by first | exact hG.2 _ _ | exact b01_in _ | assumption | exact ⟨by omega, by omega⟩) (fun c1 => ?_) (fun c1 => ?_)
    · refine s_iconst dX3_isSame_30 ?_
      exact s_zreturn dX3_isSame_31 rfl (Or.inr rfl) (by rw [b01_t (c := ∀ j : Int, 0 ≤ j → j < n → h nm j = h b (p + j)) (fun j j0 j1 => he j j0 (by omega))] at k; exact k)
    · exact absurd c1 (by omega)
  | succ m ih =>
    intro i i0 i1 he
    refine s_iload dX3_isSame_3 rfl ?_
    refine s_iload_n dX3_isSame_5 rfl ?_
    refine s_icmp_ge (tgt := 30) dX3_isSame_6 (by decide) (by first | exact hG.2 _ _ | exact b01_in _ | assumption | exact ⟨by omega, by omega⟩) (by first | exact hG.2 _ _ | exact b01_in _ | assumption | exact ⟨by omega, by omega⟩) (fun c1 => ?_) (fun c1 => ?_)
    · exact absurd c1 (by omega)
    · refine s_aload_n dX3_isSame_9 rfl ?_
      refine s_iload dX3_isSame_10 rfl ?_
      refine s_baload1 dX3_isSame_12 A (by omega) (by omega) ?_
      refine s_aload_n dX3_isSame_13 rfl ?_
      refine s_iload_n dX3_isSame_14 rfl ?_
      refine s_iload dX3_isSame_15 rfl ?_
      refine s_iadd dX3_isSame_17 ?_
      refine s_baload1 dX3_isSame_18 B (by omega) (by omega) ?_
      refine s_icmp_eq (tgt := 24) dX3_isSame_19 (by decide) (by first | exact hG.2 _ _ | exact b01_in _ | assumption | exact ⟨by omega, by omega⟩) (by first | exact hG.2 _ _ | exact b01_in _ | assumption | exact ⟨by omega, by omega⟩) (fun c2 => ?_) (fun c2 => ?_)
      · refine s_iinc dX3_isSame_24 rfl (by decide) rfl (L' := [_, _, _, _, _]) rfl ?_
        refine s_goto (tgt := 3) dX3_isSame_27 (by decide) ?_
        exact ih (i + 1) (by omega) (by omega) (fun j j0 j1 => (by rcases (by omega : j < i ∨ j = i) with q | q; exact he j j0 q; rw [q]; exact c2))
      · refine s_iconst dX3_isSame_22 ?_
        exact s_zreturn dX3_isSame_23 rfl (Or.inl rfl) (by rw [b01_f (c := ∀ j : Int, 0 ≤ j → j < n → h nm j = h b (p + j)) (fun q => c2 (q i i0 (by omega)))] at k; exact k)
set_option maxRecDepth 100000 in
set_option maxHeartbeats 4000000 in
theorem c_X3_isSame {nm b p n : Int} (A : isA nN nm 1 6) (B : isA nN b 1 400) (hG : G h) (p0 : 0 ≤ p) (n0 : 0 ≤ n) (hn : n ≤ 6) (hp : p + n ≤ 400) (k : Q.1 (some (0, b01 (∀ j : Int, 0 ≤ j → j < n → h nm j = h b (p + j)))) nN h) : Cl_ yX3_isSame MX3_isSame d bc bs [(2, nm), (2, b), (0, p), (0, n)] nN h Q := by
  refine s_enter pn_X3 rfl (Nat.le_of_ble_eq_true rfl) (L := [(2, _), (2, _), (0, _), (0, _), (9, 0)]) rfl ?_
  refine s_iconst dX3_isSame_0 ?_
  refine s_istore dX3_isSame_1 (by decide) rfl (L' := [_, _, _, _, _]) rfl ?_
  exact lp_X3_isSame A B hG p0 hn hp k n.toNat 0 (by omega) (by omega) (fun j j0 j1 => by omega)
/-- the i-th name is the n letters of b from p on -/
def nq_ (h : PH) (a b p n i : Int) : Prop := h (a + 1) i = n ∧ ∀ j : Int, 0 ≤ j → j < n → h (a + 2 + 1 + i) j = h b (p + j)
/-- which name it is: r, or none -/
def nf_ (h : PH) (a b p n r : Int) : Prop := (r = -1 ∧ ∀ i : Int, 0 ≤ i → i < h a 1 → ¬ nq_ h a b p n i) ∨ (0 ≤ r ∧ r < h a 1 ∧ nq_ h a b p n r ∧ ∀ i : Int, 0 ≤ i → i < r → ¬ nq_ h a b p n i)
set_option maxRecDepth 100000 in
set_option maxHeartbeats 4000000 in
theorem lp_X3_find {b p n : Int} (hd : 2 ≤ d) (A : isO nN a 2) (B : isA nN b 1 400) (hG : G h) (c0 : 0 ≤ h a 1) (c9 : h a 1 ≤ nl_ a) (p0 : 0 ≤ p) (n0 : 0 ≤ n) (hp : p + n ≤ 400) (hl : ∀ i : Int, 0 ≤ i → i < h a 1 → h (a + 1) i ≤ 6) (k : ∀ r : Int, nf_ h a b p n r → Q.1 (some (0, r)) nN h) : ∀ (m : Nat) (i : Int), 0 ≤ i → i + m = h a 1 → (∀ j : Int, 0 ≤ j → j < i → ¬ nq_ h a b p n j) → S_ MX3_find d bc bs Q 3 [(2, a), (2, b), (0, p), (0, n), (0, i)] [] nN h := by
  have hnl : (nl_ a : Int) ≤ 12 := by
    unfold nl_
    split <;> omega
  intro m
  induction m with
  | zero =>
    intro i i0 i1 he
    refine s_iload dX3_find_3 rfl ?_
    refine s_aload_n dX3_find_5 rfl ?_
    refine s_geti dX3_find_6 fl_X3_20 kl_2 (by decide) rfl A (z := 1) rfl ?_
    refine s_icmp_ge (tgt := 48) dX3_find_9 (by decide) (by first | exact hG.2 _ _ | exact b01_in _ | assumption | exact ⟨by omega, by omega⟩) (by first | exact hG.2 _ _ | exact b01_in _ | assumption | exact ⟨by omega, by omega⟩) (fun c1 => ?_) (fun c1 => ?_)
    · refine s_iconst dX3_find_48 ?_
      exact s_ireturn dX3_find_49 rfl (k (-1) (Or.inl ⟨rfl, fun j j0 j1 => he j j0 (by omega)⟩))
    · exact absurd c1 (by omega)
  | succ m ih =>
    intro i i0 i1 he
    refine s_iload dX3_find_3 rfl ?_
    refine s_aload_n dX3_find_5 rfl ?_
    refine s_geti dX3_find_6 fl_X3_20 kl_2 (by decide) rfl A (z := 1) rfl ?_
    refine s_icmp_ge (tgt := 48) dX3_find_9 (by decide) (by first | exact hG.2 _ _ | exact b01_in _ | assumption | exact ⟨by omega, by omega⟩) (by first | exact hG.2 _ _ | exact b01_in _ | assumption | exact ⟨by omega, by omega⟩) (fun c1 => ?_) (fun c1 => ?_)
    · exact absurd c1 (by omega)
    · refine s_aload_n dX3_find_12 rfl ?_
      refine s_getr dX3_find_13 fl_X3_9 kl_2 (by decide) rfl A (z := 0) rfl (rf_2_0 hG.1 A) (rk_2_0 A).1 ?_
      refine s_iload dX3_find_16 rfl ?_
      refine s_iaload dX3_find_18 (rk_2_0 A) (by omega) (by omega) ?_
      refine s_iload_n dX3_find_19 rfl ?_
      refine s_icmp_ne (tgt := 42) dX3_find_20 (by decide) (by first | exact hG.2 _ _ | exact b01_in _ | assumption | exact ⟨by omega, by omega⟩) (by first | exact hG.2 _ _ | exact b01_in _ | assumption | exact ⟨by omega, by omega⟩) (fun c2 => ?_) (fun c2 => ?_)
      · refine s_iinc dX3_find_42 rfl (by decide) rfl (L' := [_, _, _, _, _]) rfl ?_
        refine s_goto (tgt := 3) dX3_find_45 (by decide) ?_
        refine ih (i + 1) (by omega) (by omega) (fun j j0 j1 => ?_)
        rcases (by omega : j < i ∨ j = i) with q | q
        · exact he j j0 q
        · rw [q]; intro z; first | exact c2 z.1 | exact c3 z.2
      · refine s_aload_n dX3_find_23 rfl ?_
        refine s_getr dX3_find_24 fl_X3_17 kl_2 (by decide) rfl A (z := 2) rfl (rf_2_2 hG.1 A) (rk_2_2 A).1 ?_
        refine s_iload dX3_find_27 rfl ?_
        refine s_aaload5 dX3_find_29 (rk_2_2 A) (by omega) (by omega) (rw_2_2 hG.1 A (by omega) (by omega)) (rx_2_2 A (by omega) (by omega)).1 ?_
        refine s_aload_n dX3_find_30 rfl ?_
        refine s_iload_n dX3_find_31 rfl ?_
        refine s_iload_n dX3_find_32 rfl ?_
        refine s_callS (d' := d - 1) (bc' := 0) (bs' := 0) (as := [_, _, _, _]) dX3_find_33 sf_X3_30 (dd_ (by omega) (by decide)) ⟨Nat.zero_le _, Nat.zero_le _⟩ rfl rfl (Nat.le_of_ble_eq_true rfl) ?_
        have hln := hl i i0 (by omega)
        refine c_X3_isSame (rx_2_2 A (by omega) (by omega)) B hG p0 n0 (by omega) hp ?_
        refine s_if_eq (tgt := 42) dX3_find_36 (by decide) (by first | exact hG.2 _ _ | exact b01_in _ | assumption | exact ⟨by omega, by omega⟩) (fun c3 => ?_) (fun c3 => ?_)
        · have c3 := b01_0.mp c3
          refine s_iinc dX3_find_42 rfl (by decide) rfl (L' := [_, _, _, _, _]) rfl ?_
          refine s_goto (tgt := 3) dX3_find_45 (by decide) ?_
          refine ih (i + 1) (by omega) (by omega) (fun j j0 j1 => ?_)
          rcases (by omega : j < i ∨ j = i) with q | q
          · exact he j j0 q
          · rw [q]; intro z; first | exact c2 z.1 | exact c3 z.2
        · have c3 := b01_n.mp c3
          refine s_iload dX3_find_39 rfl ?_
          exact s_ireturn dX3_find_41 rfl (k i (Or.inr ⟨i0, by omega, ⟨c2, c3⟩, he⟩))
set_option maxRecDepth 100000 in
set_option maxHeartbeats 4000000 in
theorem c_X3_find {b p n : Int} (hd : 2 ≤ d) (A : isO nN a 2) (B : isA nN b 1 400) (hG : G h) (c0 : 0 ≤ h a 1) (c9 : h a 1 ≤ nl_ a) (p0 : 0 ≤ p) (n0 : 0 ≤ n) (hp : p + n ≤ 400) (hl : ∀ i : Int, 0 ≤ i → i < h a 1 → h (a + 1) i ≤ 6) (k : ∀ r : Int, nf_ h a b p n r → Q.1 (some (0, r)) nN h) : Cl_ yX3_find MX3_find d bc bs [(2, a), (2, b), (0, p), (0, n)] nN h Q := by
  refine s_enter pn_X3 rfl (Nat.le_of_ble_eq_true rfl) (L := [(2, _), (2, _), (0, _), (0, _), (9, 0)]) rfl ?_
  refine s_iconst dX3_find_0 ?_
  refine s_istore dX3_find_1 (by decide) rfl (L' := [_, _, _, _, _]) rfl ?_
  exact lp_X3_find hd A B hG c0 c9 p0 n0 hp hl k (h a 1).toNat 0 (by omega) (by omega) (fun j j0 j1 => by omega)
set_option maxRecDepth 100000 in
set_option maxHeartbeats 4000000 in
theorem c_X3_add {b p n : Int} (hd : 1 ≤ d) (A : isO nN a 2) (B : isA nN b 1 400) (hG : G h) (c0 : 0 ≤ h a 1) (c9 : h a 1 < nl_ a) (p0 : 0 ≤ p) (n0 : 0 ≤ n) (n6 : n ≤ 6) (hp : p + n ≤ 400) (hT : ∀ i : Int, 0 ≤ i → i < 400 → -128 ≤ h b i ∧ h b i < 128) (k : Q.1 (some (0, h a 1)) nN (hs_ (hs_ (cp_ h b p (a + 2 + 1 + h a 1) 0 n) (a + 1) (h a 1) n) a 1 (h a 1 + 1))) : Cl_ yX3_add MX3_add d bc bs [(2, a), (2, b), (0, p), (0, n)] nN h Q := by
  refine s_enter pn_X3 rfl (Nat.le_of_ble_eq_true rfl) (L := [(2, _), (2, _), (0, _), (0, _), (9, 0)]) rfl ?_
  have hnl : (nl_ a : Int) ≤ 12 := by
    unfold nl_
    split <;> omega
  refine s_aload_n dX3_add_0 rfl ?_
  refine s_geti dX3_add_1 fl_X3_20 kl_2 (by decide) rfl A (z := 1) rfl ?_
  refine s_istore dX3_add_4 (by decide) rfl (L' := [_, _, _, _, _]) rfl ?_
  refine s_aload_n dX3_add_6 rfl ?_
  refine s_iload_n dX3_add_7 rfl ?_
  refine s_aload_n dX3_add_8 rfl ?_
  refine s_getr dX3_add_9 fl_X3_17 kl_2 (by decide) rfl A (z := 2) rfl (rf_2_2 hG.1 A) (rk_2_2 A).1 ?_
  refine s_iload dX3_add_12 rfl ?_
  refine s_aaload5 dX3_add_14 (rk_2_2 A) (by omega) (by omega) (rw_2_2 hG.1 A (by omega) (by omega)) (rx_2_2 A (by omega) (by omega)).1 ?_
  refine s_iconst dX3_add_15 ?_
  refine s_iload_n dX3_add_16 rfl ?_
  refine s_copyb dX3_add_17 jc_X3_24 B (rx_2_2 A (by omega) (by omega)) (by omega) (by omega) (by omega) (by omega) (by omega) (fun i i0 i1 => hT (p + i) (by omega) (by omega)) (by omega) (Nat.le_of_ble_eq_true rfl) hG (fun hG1 => ?_)
  refine s_aload_n dX3_add_20 rfl ?_
  refine s_getr dX3_add_21 fl_X3_9 kl_2 (by decide) rfl A (z := 0) rfl (rf_2_0 hG1.1 A) (rk_2_0 A).1 ?_
  refine s_iload dX3_add_24 rfl ?_
  refine s_iload_n dX3_add_26 rfl ?_
  refine s_iastoreG dX3_add_27 (rk_2_0 A) (by omega) (by omega) hG1 (by first | exact hG1.2 _ _ | exact hG.2 _ _ | exact b01_in _ | assumption | exact ⟨by omega, by omega⟩) (fun hG2 => ?_)
  refine s_aload_n dX3_add_28 rfl ?_
  refine s_dup dX3_add_29 rfl ?_
  refine s_geti dX3_add_30 fl_X3_20 kl_2 (by decide) rfl A (z := 1) rfl ?_
  try simp (disch := omega) only [hs_same, hs_ne, fl_in, fl_ne, cp_inn, cp_nee]
  refine s_iconst dX3_add_33 ?_
  refine s_iadd dX3_add_34 ?_
  refine s_putiG 1 dX3_add_35 fl_X3_20 kl_2 (by decide) rfl rfl A (z := 1) rfl (by decide +kernel) hG2 (by first | exact hG2.2 _ _ | exact hG.2 _ _ | exact b01_in _ | assumption | exact ⟨by omega, by omega⟩) (fun hG3 => ?_)
  refine s_iload dX3_add_38 rfl ?_
  exact s_ireturn dX3_add_40 rfl k
end X3
