/-! the text that is written: how it grows -/
theorem kc_J8_200 : Cond.constant RJ8 200 (Int32.ofInt 2147483639) ∈ TBL := tb_in 775 (by decide +kernel) (by decide +kernel)
theorem kc_J5_39 : Cond.constant RJ5 39 (Int32.ofInt 2147483647) ∈ TBL := tb_in 779 (by decide +kernel) (by decide +kernel)
theorem pn_J4 : plainName RJ4 = true := by decide +kernel
theorem pn_J5 : plainName RJ5 = true := by decide +kernel
theorem pn_J6 : plainName RJ6 = true := by decide +kernel
theorem pn_J8 : plainName RJ8 = true := by decide +kernel
theorem sh0_ (z : Int) : z * 2 ^ (0 : Int).toNat = z := by simp
theorem dv0_ (z : Int) : z / 2 ^ (0 : Int).toNat = z := by simp
section SBD
variable {d bc bs : Nat} {Q : PQ} {P : Option PV → Nat → PH → Prop} {PX : String → Nat → PH → Prop} {h : PH}
set_option maxRecDepth 100000 in
set_option maxHeartbeats 4000000 in
theorem c5_J8_newLength_cabcc {a b c : Int} (hd : 1 ≤ d) (ha : inI a) (hb : inI b) (hc : inI c) (h0 : 0 < a + max b c) (h1 : a + max b c ≤ 2147483639) (k : P (some (0, a + max b c)) nM h) : C5_ yJ8_newLength_cabcc MJ8_newLength_cabcc d bc bs [(0, a), (0, b), (0, c)] nM h (Q5_ P) PX := by
  refine w5_enter pn_J8 rfl (Nat.le_of_ble_eq_true rfl) (L := [(0, _), (0, _), (0, _), (9, 0)]) rfl ?_
  refine w5_iload_n dJ8_newLength_cabcc_0 rfl ?_
  refine w5_iload_n dJ8_newLength_cabcc_1 rfl ?_
  refine w5_iload_n dJ8_newLength_cabcc_2 rfl ?_
  refine w5_mmax dJ8_newLength_cabcc_3 jm_J8_194 (by first | exact hG.2 _ _ | exact b01_in _ | assumption | exact ⟨by omega, by omega⟩) (by first | exact hG.2 _ _ | exact b01_in _ | assumption | exact ⟨by omega, by omega⟩) (by omega) (Nat.le_of_ble_eq_true rfl) ?_
  refine w5_iadd dJ8_newLength_cabcc_6 ?_
  refine w5_istore_n dJ8_newLength_cabcc_7 (by decide) rfl (L' := [_, _, _, _]) rfl ?_
  refine w5_iconst dJ8_newLength_cabcc_8 ?_
  refine w5_iload_n dJ8_newLength_cabcc_9 rfl ?_
  refine w5_icmp_ge (tgt := 21) dJ8_newLength_cabcc_10 (by decide) (by first | exact hG.2 _ _ | exact b01_in _ | assumption | exact ⟨by omega, by omega⟩) (by first | exact hG.2 _ _ | exact b01_in _ | assumption | exact ⟨by omega, by omega⟩) (fun c1 => ?_) (fun c1 => ?_)
  · exact absurd c1 (by omega)
  · refine w5_iload_n dJ8_newLength_cabcc_13 rfl ?_
    refine w5_ldc dJ8_newLength_cabcc_14 kc_J8_200 ?_
    refine w5_icmp_gt (tgt := 21) dJ8_newLength_cabcc_16 (by decide) (by first | exact hG.2 _ _ | exact b01_in _ | assumption | exact ⟨by omega, by omega⟩) (by first | exact hG.2 _ _ | exact b01_in _ | assumption | exact ⟨by omega, by omega⟩) (fun c2 => ?_) (fun c2 => ?_)
    · exact absurd c2 (by omega)
    · refine w5_iload_n dJ8_newLength_cabcc_19 rfl ?_
      exact w5_ireturn dJ8_newLength_cabcc_20 rfl rfl k
set_option maxRecDepth 100000 in
set_option maxHeartbeats 4000000 in
theorem c5_J5_newCapacity_0f7a4 {q cap : Int} (hd : 2 ≤ d) (hcap : h 198 (-1) = cap) (c0 : 0 ≤ cap) (c1 : cap ≤ 100000) (q0 : 0 ≤ q) (q1 : q ≤ 100000) (k : P (some (0, cap + max (q - cap) (cap + 2))) nM h) : C5_ yJ5_newCapacity_0f7a4 MJ5_newCapacity_0f7a4 d bc bs [(2, 198), (0, q)] nM h (Q5_ P) PX := by
  refine w5_enter pn_J5 rfl (Nat.le_of_ble_eq_true rfl) (L := [(2, _), (0, _), (9, 0), (9, 0), (9, 0), (9, 0)]) rfl ?_
  refine w5_aload_n dJ5_newCapacity_0f7a4_0 rfl ?_
  refine w5_getv dJ5_newCapacity_0f7a4_1 fl_J5_15 ?_
  refine w5_alen5 dJ5_newCapacity_0f7a4_4 (by omega) hcap ?_
  refine w5_istore_n dJ5_newCapacity_0f7a4_5 (by decide) rfl (L' := [_, _, _, _, _, _]) rfl ?_
  refine w5_iload_n dJ5_newCapacity_0f7a4_6 rfl ?_
  refine w5_aload_n dJ5_newCapacity_0f7a4_7 rfl ?_
  refine w5_getk dJ5_newCapacity_0f7a4_8 fl_J5_22 ?_
  refine w5_ishl dJ5_newCapacity_0f7a4_11 (by omega) (by omega) ?_
  rw [sh0_]
  refine w5_istore_n dJ5_newCapacity_0f7a4_12 (by decide) rfl (L' := [_, _, _, _, _, _]) rfl ?_
  refine w5_iload_n dJ5_newCapacity_0f7a4_13 rfl ?_
  refine w5_iload_n dJ5_newCapacity_0f7a4_14 rfl ?_
  refine w5_isub dJ5_newCapacity_0f7a4_15 ?_
  refine w5_istore dJ5_newCapacity_0f7a4_16 (by decide) rfl (L' := [_, _, _, _, _, _]) rfl ?_
  refine w5_iload_n dJ5_newCapacity_0f7a4_18 rfl ?_
  refine w5_iload dJ5_newCapacity_0f7a4_19 rfl ?_
  refine w5_iload_n dJ5_newCapacity_0f7a4_21 rfl ?_
  refine w5_iconst dJ5_newCapacity_0f7a4_22 ?_
  refine w5_aload_n dJ5_newCapacity_0f7a4_23 rfl ?_
  refine w5_getk dJ5_newCapacity_0f7a4_24 fl_J5_22 ?_
  refine w5_ishl dJ5_newCapacity_0f7a4_27 (by omega) (by omega) ?_
  rw [sh0_]
  refine w5_iadd dJ5_newCapacity_0f7a4_28 ?_
  refine w5_callS (d' := d - 1) (as := [_, _, _]) dJ5_newCapacity_0f7a4_29 sf_J5_114 (dd_ (by omega) (by decide)) rfl rfl (Nat.le_of_ble_eq_true rfl) ?_
  refine c5_J8_newLength_cabcc (by omega) ⟨by omega, by omega⟩ ⟨by omega, by omega⟩ ⟨by omega, by omega⟩ (by omega) (by omega) ?_
  refine w5_istore dJ5_newCapacity_0f7a4_32 (by decide) rfl (L' := [_, _, _, _, _, _]) rfl ?_
  refine w5_iload dJ5_newCapacity_0f7a4_34 rfl ?_
  refine w5_ldc dJ5_newCapacity_0f7a4_36 kc_J5_39 ?_
  refine w5_icmp_ne (tgt := 51) dJ5_newCapacity_0f7a4_38 (by decide) (by first | exact hG.2 _ _ | exact b01_in _ | assumption | exact ⟨by omega, by omega⟩) (by first | exact hG.2 _ _ | exact b01_in _ | assumption | exact ⟨by omega, by omega⟩) (fun c1 => ?_) (fun c1 => ?_)
  · refine w5_iload dJ5_newCapacity_0f7a4_51 rfl ?_
    refine w5_aload_n dJ5_newCapacity_0f7a4_53 rfl ?_
    refine w5_getk dJ5_newCapacity_0f7a4_54 fl_J5_22 ?_
    refine w5_ishr dJ5_newCapacity_0f7a4_57 (by first | exact hG.2 _ _ | exact b01_in _ | assumption | exact ⟨by omega, by omega⟩) (by omega) (by omega) ?_
    rw [dv0_]
    exact w5_ireturn dJ5_newCapacity_0f7a4_58 rfl rfl k
  · exact absurd c1 (by omega)
set_option maxRecDepth 100000 in
set_option maxHeartbeats 4000000 in
theorem c5_J3_checkIndex_8e157 {i n : Int} {v : PV} (hi : inI i) (hn : inI n) (i0 : 0 ≤ i) (i1 : i < n) (hv : v = (4, 0) ∨ v = (2, 1305)) (k : P (some (0, i)) nM h) : C5_ yJ3_checkIndex_8e157 MJ3_checkIndex_8e157 d bc bs [(0, i), (0, n), v] nM h (Q5_ P) PX := by
  refine w5_enter pn_J3 rfl (by rcases hv with e | e <;> subst e <;> exact Nat.le_of_ble_eq_true rfl) (L := [(0, _), (0, _), v]) (by rcases hv with e | e <;> subst e <;> rfl) ?_
  refine w5_iload_n dJ3_checkIndex_8e157_0 rfl ?_
  refine w5_if_lt (tgt := 9) dJ3_checkIndex_8e157_1 (by decide) (by first | exact hG.2 _ _ | exact b01_in _ | assumption | exact ⟨by omega, by omega⟩) (fun c1 => ?_) (fun c1 => ?_)
  · exact absurd c1 (by omega)
  · refine w5_iload_n dJ3_checkIndex_8e157_4 rfl ?_
    refine w5_iload_n dJ3_checkIndex_8e157_5 rfl ?_
    refine w5_icmp_lt (tgt := 16) dJ3_checkIndex_8e157_6 (by decide) (by first | exact hG.2 _ _ | exact b01_in _ | assumption | exact ⟨by omega, by omega⟩) (by first | exact hG.2 _ _ | exact b01_in _ | assumption | exact ⟨by omega, by omega⟩) (fun c2 => ?_) (fun c2 => ?_)
    · refine w5_iload_n dJ3_checkIndex_8e157_16 rfl ?_
      exact w5_ireturn dJ3_checkIndex_8e157_17 rfl rfl k
    · exact absurd c2 (by omega)
set_option maxRecDepth 100000 in
set_option maxHeartbeats 4000000 in
theorem c5_J0_checkIndex_df160 {i n : Int} (hd : 1 ≤ d) (hi : inI i) (hn : inI n) (i0 : 0 ≤ i) (i1 : i < n) (k : P none nM h) : C5_ yJ0_checkIndex_df160 MJ0_checkIndex_df160 d bc bs [(0, i), (0, n)] nM h (Q5_ P) PX := by
  refine w5_enter pn_J0 rfl (Nat.le_of_ble_eq_true rfl) (L := [(0, _), (0, _)]) rfl ?_
  refine w5_iload_n dJ0_checkIndex_df160_0 rfl ?_
  refine w5_iload_n dJ0_checkIndex_df160_1 rfl ?_
  refine w5_getsF dJ0_checkIndex_df160_2 fl_J0_1053 (fun v hv => ?_)
  refine w5_callS (d' := d - 1) (as := [_, _, v]) dJ0_checkIndex_df160_5 sf_J0_1059 (dd_ (by omega) (by decide)) rfl rfl (Nat.le_of_ble_eq_true rfl) ?_
  refine c5_J3_checkIndex_8e157 hi hn i0 i1 hv ?_
  refine w5_pop dJ0_checkIndex_df160_8 rfl ?_
  exact w5_return dJ0_checkIndex_df160_9 rfl k
set_option maxRecDepth 100000 in
set_option maxHeartbeats 4000000 in
theorem c5_J0_coder_7d493 {j : Nat} (hj : j < 44)  (k : P (some (0, 0)) nM h) : C5_ yJ0_coder_7d493 MJ0_coder_7d493 d bc bs [(2, 1000 + j)] nM h (Q5_ P) PX := by
  refine w5_enter pn_J0 rfl (Nat.le_of_ble_eq_true rfl) (L := [(2, _)]) rfl ?_
  refine w5_getsC dJ0_coder_7d493_0 fl_J0_38 ?_
  refine w5_if_eq (tgt := 13) dJ0_coder_7d493_3 (by decide) (by first | exact hG.2 _ _ | exact b01_in _ | assumption | exact ⟨by omega, by omega⟩) (fun c1 => ?_) (fun c1 => ?_)
  · exact absurd c1 (by decide)
  · refine w5_aload_n dJ0_coder_7d493_6 rfl ?_
    refine w5_kfld (v := (0, 0)) (ref := "java/lang/String") dJ0_coder_7d493_7 (kx_co hj) fl_J0_15 ?_
    refine w5_goto (tgt := 14) dJ0_coder_7d493_10 (by decide) ?_
    exact w5_ireturn dJ0_coder_7d493_14 rfl (by decide) k
/-- as many places as m, the first of them as they were -/
def gw_ (h : PH) (m : Int) : PH := fun x y => if x = 198 then (if y = -1 then m else if 10 + h 198 (-1) ≤ y then 0 else h 198 y) else h x y
theorem gw_oth {m x y : Int} (e : ¬ x = 198) : gw_ h m x y = h x y := if_neg e
theorem gw_B {m : Int} : ∀ x : Int, x ≠ 198 → gw_ h m x = h x := fun x hx => funext fun y => if_neg hx
theorem gw_c {m : Int} : gw_ h m 198 (-1) = m := by unfold gw_; rw [if_pos rfl, if_pos rfl]
theorem gw_lo {m y : Int} (a : ¬ y = -1) (b : y < 10 + h 198 (-1)) : gw_ h m 198 y = h 198 y := by unfold gw_; rw [if_pos rfl, if_neg a, if_neg (by omega)]
theorem gw_hi {m y : Int} (a : ¬ y = -1) (b : 10 + h 198 (-1) ≤ y) : gw_ h m 198 y = 0 := by unfold gw_; rw [if_pos rfl, if_neg a, if_pos b]
theorem gw_g {m : Int} (hG : G h) (hm : inI m) : G (gw_ h m) := by
  refine g_B hG gw_B (fun k => ?_)
  unfold gw_
  rw [if_pos rfl]
  split
  · exact hm
  · split
    · exact inI0
    · exact hG.2 _ _
/-- what a copy of its array owes: the new one stands beside all else -/
def QN_ (h : PH) (m : Int) : FP := fun s0 D dA ad _ st o t =>
  (∃ a' : Nat, o = .returned (some (.ref a')) ∧ va_P D ucl (wl_ ad dA nM h ++ [(a', .inl (dA 1, m.toNat, .inl fun k => Int32.ofInt (gw_ h m 198 (10 + k))))]) t.heap ∧ va_D (own_ s0) (wl_ ad dA nM h ++ [(a', .inl (dA 1, m.toNat, .inl fun k => Int32.ofInt (gw_ h m 198 (10 + k))))]) ∧ s0.heap.size ≤ t.heap.size ∧ ∀ q : Nat, q < s0.heap.size → t.heap[q]? = s0.heap[q]?) ∧ va_F (own_ s0) st t
theorem ac_byte : Cond.arrayClass .byte ∈ TBL := tb_in 151 (by decide +kernel) (by decide +kernel)
set_option maxRecDepth 100000 in
set_option maxHeartbeats 4000000 in
theorem c5_J7_copyOf_9075b {m cap : Int} (hd : 1 ≤ d) (hcap : h 198 (-1) = cap) (c0 : 0 ≤ cap) (cm : cap < m) (m1 : m ≤ 100000) (hbc : 1 ≤ bc) (hbs : m.toNat ≤ bs) (hby : ∀ k : Int, 0 ≤ k → k < cap → -128 ≤ h 198 (10 + k) ∧ h 198 (10 + k) < 128) : C5_ yJ7_copyOf_9075b MJ7_copyOf_9075b d bc bs [(5, 0), (0, m)] nM h (QN_ h m) PX := by
  refine w5_enter pn_J7 rfl (Nat.le_of_ble_eq_true rfl) (L := [(5, _), (0, _), (9, 0)]) rfl ?_
  refine w5_iload_n dJ7_copyOf_9075b_0 rfl ?_
  refine w5_aload5 dJ7_copyOf_9075b_1 rfl ?_
  refine w5_alen5 dJ7_copyOf_9075b_2 (by omega) hcap ?_
  refine w5_icmp_ne (tgt := 14) dJ7_copyOf_9075b_3 (by decide) ⟨by omega, by omega⟩ ⟨by omega, by omega⟩ (fun _ => ?_) (fun c => absurd c (by omega))
  refine w5_iload_n dJ7_copyOf_9075b_14 rfl ?_
  intro l s0 D dA ad p e R s m9 args below meth c H locs cells slots mc ms ls hG hC hW hL
  obtain ⟨⟨⟨hP, hD⟩, hb1, hb2, hb3⟩, hS⟩ := id hW
  have f1 := cx_bc hC
  have f2 := cx_bs hC
  have f3 := cx_rc hC
  have f4 := cx_rs hC
  have hK := Gl_K hG (cx_al hC)
  have hlo := cx_lo hC
  have hL0 : lv_has ls 3 [(0, .ref ad.1), (1, .int (Int32.ofInt m))] := hL
  have nm : ¬ Int32.ofInt m < 0 := fun q => by
    have := (pI_lt (x := m) (y := 0) ⟨by omega, by omega⟩ inI0).mp q
    omega
  refine va_newa (atype := .byte) (cx_ex hC) (cx_cb hC) (cx_ts hC _ ac_byte) rfl hK hP hD hS (fun q hq => Nat.le_trans (cx_sz hC) hq) (a0 := (m.toNat, .inl fun _ => 0)) (N' := m.toNat) (fun _ => rfl) nm (pI_cl (by omega) (by omega)) (by show m.toNat * 1 ≤ 536870912; omega) (by omega) (by omega) dJ7_copyOf_9075b_15 (fun q cA H1 hK1 hP1 hD1 hS1 => ?_)
  have ec : cA = dA 1 := by
    have a1 : s.vm.findClass ("[" ++ FieldType.byte.toString) = some cA := (hK1.2 6 (cA, .byte) rfl).2
    have a2 : s.vm.findClass ("[" ++ FieldType.byte.toString) = some (dA 1) := (hK.2 1 (dA 1, .byte) rfl).2
    exact Option.some.inj (a1.symm.trans a2)
  subst ec
  refine lv_astore_n (cx_ex hC) (cx_cb hC) dJ7_copyOf_9075b_17 rfl hL0 (by decide) rfl (fun ls2 (hL2 : lv_has ls2 3 [(2, .ref q), (0, .ref ad.1), (1, .int (Int32.ofInt m))]) => ?_)
  have g0 := lv_at hL2 1 rfl
  have g1 := lv_at hL2 2 rfl
  have g2 := lv_at hL2 0 rfl
  refine lv_aload_n (cx_ex hC) (cx_cb hC) dJ7_copyOf_9075b_18 rfl g0 ?_
  refine lv_iconst (cx_ex hC) (cx_cb hC) dJ7_copyOf_9075b_19 rfl ?_
  refine lv_aload_n (cx_ex hC) (cx_cb hC) dJ7_copyOf_9075b_20 rfl g2 ?_
  refine lv_iconst (cx_ex hC) (cx_cb hC) dJ7_copyOf_9075b_21 rfl ?_
  refine lv_aload_n (cx_ex hC) (cx_cb hC) dJ7_copyOf_9075b_22 rfl g0 ?_
  have x225 : (wl_ ad dA nM h ++ [(q, (.inl (dA 1, (m.toNat, .inl fun _ => 0)) : va_E))])[199]? = some (ad.1, .inl (dA 1, (h 198 (-1)).toNat, .inl fun k => Int32.ofInt (h 198 (10 + k)))) := by
    rw [List.getElem?_append_left (by rw [wl_len]; decide)]
    exact wl_225
  have x226 : (wl_ ad dA nM h ++ [(q, (.inl (dA 1, (m.toNat, .inl fun _ => 0)) : va_E))])[200]? = some (q, .inl (dA 1, (m.toNat, .inl fun _ => 0))) := by
    rw [List.getElem?_append_right (by rw [wl_len]; exact Nat.le_refl _), wl_len]
    rfl
  refine va_alen (cx_ex hC) (cx_cb hC) hK hP1 199 1 x225 (ty := .byte) rfl (v := Int32.ofInt cap) (by show Int32.ofInt (((h 198 (-1)).toNat : Nat) : Int) = _; rw [toN_ (by omega), hcap]) dJ7_copyOf_9075b_23 ?_
  refine lv_iload_n (cx_ex hC) (cx_cb hC) dJ7_copyOf_9075b_24 rfl g1 ?_
  have es : (([.int 0, .ref q, .int 0, .ref ad.1] : List Value).map fun v => v.category).sum = 4 := rfl
  have fr := Nat.le_trans hd (cx_fr hC)
  refine va_mmin (cx_ex hC) (cx_cb hC) ((cx_ml hC).trans hL2.1.symm) (cx_own hC) (cx_ts hC _ jm_J7_304.1) (cx_ts hC _ jm_J7_304.2.1) (cx_ts hC _ jm_J7_304.2.2.1) (cx_ts hC _ jm_J7_304.2.2.2) fr (by show (4 : Nat) + 13 ≤ R.locals; omega) (by omega) (by omega) dJ7_copyOf_9075b_25 ?_
  have e9 : (if Int32.ofInt m < Int32.ofInt cap then Int32.ofInt m else Int32.ofInt cap) = Int32.ofInt cap := if_neg (fun z => by have := (pI_lt (x := m) (y := cap) ⟨by omega, by omega⟩ ⟨by omega, by omega⟩).mp z; omega)
  show W p l e R s m9 args below meth c H1 locs _ _ _ (F0 m9 28 ls2 (Value.int (if Int32.ofInt m < Int32.ofInt cap then Int32.ofInt m else Int32.ofInt cap) :: [.int 0, .ref q, .int 0, .ref ad.1]))
  rw [e9]
  have n0 : ¬ (0 : Int32) < 0 := by decide
  have nc : ¬ Int32.ofInt cap < 0 := fun q => by
    have := (pI_lt (x := cap) (y := 0) ⟨by omega, by omega⟩ inI0).mp q
    omega
  have z0 : (0 : Int32).toNatClampNeg = 0 := rfl
  have zc : (Int32.ofInt cap).toNatClampNeg = cap.toNat := pI_cl c0 (by omega)
  refine va_copyi (cx_ex hC) (cx_cb hC) ((cx_ml hC).trans hL2.1.symm) (cx_own hC) (cx_ts hC _ jc_J7_150.1) (cx_ts hC _ jc_J7_150.2.1) (cx_ts hC _ jc_J7_150.2.2.1) (cx_ts hC _ jc_J7_150.2.2.2) hK hP1 hD1 hS1 199 200 1 1 x225 x226 (ty := .byte) rfl rfl rfl n0 n0 nc (by rw [z0, zc]; omega) (by rw [z0, zc]; omega) (fun i hi => ?_) fr ?_ dJ7_copyOf_9075b_28 ?_
  · rw [zc] at hi
    rw [z0, Nat.zero_add]
    have b := hby i (by omega) (by omega)
    exact fit_b b.1 b.2
  · have e : nativeFrameWords "java/lang/System" "arraycopy" 5 + 11 ≤ 24 := by decide
    show 0 + _ ≤ _
    omega
  · intro H2 locs2 hP2 hD2 hS2
    have eX : (wl_ ad dA nM h ++ [(q, (.inl (dA 1, (m.toNat, .inl fun _ => 0)) : va_E))]).set 200 (q, .inl (dA 1, m.toNat, .inl (va_cpy (fun k : Nat => Int32.ofInt (h 198 (10 + (k : Int)))) (fun _ => 0) (0 : Int32).toNatClampNeg (0 : Int32).toNatClampNeg (Int32.ofInt cap).toNatClampNeg))) = wl_ ad dA nM h ++ [(q, .inl (dA 1, m.toNat, .inl fun k => Int32.ofInt (gw_ h m 198 (10 + k))))] := by
      rw [List.set_append_right _ _ (by rw [wl_len]; exact Nat.le_refl _), wl_len, z0, zc]
      show wl_ ad dA nM h ++ [_] = _
      congr 6
      refine congrArg Sum.inl (funext fun k => ?_)
      unfold va_cpy
      by_cases c : 0 ≤ k ∧ k < 0 + cap.toNat
      · rw [if_pos c, gw_lo (by omega) (by omega)]
        simp
      · rw [if_neg c, gw_hi (by omega) (by omega)]
        rfl
    rw [eX] at hP2 hD2
    refine lv_aload_n (cx_ex hC) (cx_cb hC) dJ7_copyOf_9075b_31 rfl g2 ?_
    refine W.widen (k := mc) (n := ms) (by omega) (by omega) (vx_ret ?_)
    exact W.aret (cx_ex hC) (cx_cb hC) ((cx_rt hC).trans rfl) (Or.inr ⟨.byte, rfl⟩) (Or.inr ⟨q, rfl⟩) (fun t ht _ => ⟨⟨q, rfl, by rw [ht]; exact hP2, by exact hD2, by rw [ht]; exact Nat.le_trans (cx_sz hC) hS2.1, fun x hx => by rw [ht, hS2.2.1 x (Nat.lt_of_lt_of_le hx (cx_sz hC)) (fun z => absurd hx (Nat.not_lt.mpr z))]; exact cx_ag hC x hx⟩, hS2.F ht⟩) (fun x hx => hS2.2.2 x hx) dJ7_copyOf_9075b_32 (cx_lk hC)
end SBD
