/-! .. its bytes: the builder's, so many as are written -/
theorem sub0_ (n : Int) : Int32.ofInt n - 0 = Int32.ofInt n := by
  show Int32.ofInt n - Int32.ofInt 0 = _
  rw [← Int32.ofInt_sub, Int.sub_zero]
/-- so much of an array, copied, stands behind the world -/
def ZC_ (dA : Nat → ClassId) (ws : va_W) (n : Nat) (f : Nat → Int32) : ZP := fun v w1 => ∃ (b : Nat) (g : Nat → Int32), v = some (.ref b) ∧ w1 = ws ++ [(b, .inl (dA 1, (n, .inl g)))] ∧ ∀ k : Nat, k < n → g k = f k
section RMC
variable {l : Launch} {s0 : State} {D : va_G} {dA : Nat → ClassId} {ad : AD} {ws : va_W} {d bc bs : Nat} {b q0 : Nat} {n : Int}
theorem rm_checkLength (hn0 : 0 ≤ n) (hn1 : n < 2147483648) (hG : Gl_ l s0 D dA ad.2) : RM_ l s0 D yJ7_checkLength_df160 MJ7_checkLength_df160 d 0 0 [.int 0, .int (Int32.ofInt n)] ws (fun v w1 => v = none ∧ w1 = ws) := by
  refine r_enter (ad := ad) pn_J7 rfl (Nat.le_of_ble_eq_true rfl) ?_
  intro p e R s m args below meth c ls hC hW hS hL
  refine lv_iload_n (cx_ex hC) (cx_cb hC) dJ7_checkLength_df160_0 rfl (hL.2.2 (1, .int (Int32.ofInt n)) (List.mem_cons_of_mem _ List.mem_cons_self)) ?_
  refine lv_iload_n (cx_ex hC) (cx_cb hC) dJ7_checkLength_df160_1 rfl (hL.2.2 (0, .int 0) List.mem_cons_self) ?_
  refine lv_icmp_ge (tgt := 37) (cx_ex hC) (cx_cb hC) dJ7_checkLength_df160_2 rfl (fun _ => ?_) (fun z => ?_)
  · exact r_vret hC hW hS dJ7_checkLength_df160_37 rfl ⟨rfl, rfl⟩
  · exact absurd ((pI_le (x := 0) (y := n) inI0 ⟨by omega, by omega⟩).mpr hn0) z
theorem rm_copyB {a cap : Nat} {f : Nat → Int32} (hd : 2 ≤ d) (hn0 : 0 ≤ n) (hn1 : n.toNat ≤ cap) (hc : cap ≤ 100000) (hbc : 1 ≤ bc) (hbs : n.toNat ≤ bs) (hG : Gl_ l s0 D dA ad.2) (he : ws[q0]? = some (a, .inl (dA 1, (cap, .inl f)))) (hf : ∀ k : Nat, k < n.toNat → fits .byte (.int (f k)) = true) : RM_ l s0 D yJ7_copyOfRangeByte_39247 MJ7_copyOfRangeByte_39247 d bc bs [.ref a, .int 0, .int (Int32.ofInt n)] ws (ZC_ dA ws n.toNat f) := by
  refine r_enter (ad := ad) pn_J7 rfl (Nat.le_of_ble_eq_true rfl) ?_
  intro p e R s m args below meth c ls hC hW hS hL
  have hL0 : lv_has ls 5 [(0, .ref a), (1, .int 0), (2, .int (Int32.ofInt n))] := hL
  have f1 := cx_bc hC
  have f2 := cx_bs hC
  have f3 := cx_rc hC
  have f4 := cx_rs hC
  have hlo := cx_lo hC
  have fr : 1 ≤ R.frames := Nat.le_trans (by omega) (cx_fr hC)
  have hK := Gl_K hG (cx_al hC)
  refine lv_iload_n (cx_ex hC) (cx_cb hC) dJ7_copyOfRangeByte_39247_0 rfl (lv_at hL0 1 rfl) ?_
  refine lv_iload_n (cx_ex hC) (cx_cb hC) dJ7_copyOfRangeByte_39247_1 rfl (lv_at hL0 2 rfl) ?_
  refine r_callS (d' := d - 1) (bc' := 0) (bs' := 0) (as := [_, _]) (rest := []) hC hW hS hL0.1 dJ7_copyOfRangeByte_39247_2 sf_J7_343 (dd_ (by omega) (by decide)) ⟨Nat.zero_le _, Nat.zero_le _⟩ rfl rfl (Nat.le_of_ble_eq_true rfl) (rm_checkLength (by omega) (by omega) hG) ?_
  rintro v w1 H1 locs1 ⟨rfl, rfl⟩ hW1 hS1
  refine lv_iload_n (cx_ex hC) (cx_cb hC) dJ7_copyOfRangeByte_39247_5 rfl (lv_at hL0 2 rfl) ?_
  refine lv_iload_n (cx_ex hC) (cx_cb hC) dJ7_copyOfRangeByte_39247_6 rfl (lv_at hL0 1 rfl) ?_
  refine lv_isub (cx_ex hC) (cx_cb hC) dJ7_copyOfRangeByte_39247_7 ?_
  rw [sub0_]
  refine lv_istore_n (cx_ex hC) (cx_cb hC) dJ7_copyOfRangeByte_39247_8 rfl hL0 (by decide) rfl (fun ls2 (hL2 : lv_has ls2 5 [(3, .int (Int32.ofInt n)), (0, .ref a), (1, .int 0), (2, .int (Int32.ofInt n))]) => ?_)
  refine lv_iload_n (cx_ex hC) (cx_cb hC) dJ7_copyOfRangeByte_39247_9 rfl (lv_at hL2 0 rfl) ?_
  have nm : ¬ Int32.ofInt n < 0 := fun q => by
    have := (pI_lt (x := n) (y := 0) ⟨by omega, by omega⟩ inI0).mp q
    omega
  refine va_newa (atype := .byte) (cx_ex hC) (cx_cb hC) (cx_ts hC _ ac_byte) rfl hK hW1.1.1 hW1.1.2 hS1 (fun q hq => Nat.le_trans (cx_sz hC) hq) (a0 := (n.toNat, .inl fun _ => 0)) (N' := n.toNat) (fun _ => rfl) nm (pI_cl (by omega) (by omega)) (by show n.toNat * 1 ≤ 536870912; omega) (by omega) (by omega) dJ7_copyOfRangeByte_39247_10 (fun q cA H2 hK2 hP2 hD2 hS2 => ?_)
  have ec : cA = dA 1 := by
    have a1 : s.vm.findClass ("[" ++ FieldType.byte.toString) = some cA := (hK2.2 6 (cA, .byte) rfl).2
    have a2 : s.vm.findClass ("[" ++ FieldType.byte.toString) = some (dA 1) := (hK.2 1 (dA 1, .byte) rfl).2
    exact Option.some.inj (a1.symm.trans a2)
  subst ec
  refine lv_astore (cx_ex hC) (cx_cb hC) dJ7_copyOfRangeByte_39247_12 hL2 (by decide) rfl (fun ls3 (hL3 : lv_has ls3 5 [(4, .ref q), (3, .int (Int32.ofInt n)), (0, .ref a), (1, .int 0), (2, .int (Int32.ofInt n))]) => ?_)
  refine lv_aload_n (cx_ex hC) (cx_cb hC) dJ7_copyOfRangeByte_39247_14 rfl (lv_at hL3 2 rfl) ?_
  refine lv_iload_n (cx_ex hC) (cx_cb hC) dJ7_copyOfRangeByte_39247_15 rfl (lv_at hL3 3 rfl) ?_
  refine lv_aload (cx_ex hC) (cx_cb hC) dJ7_copyOfRangeByte_39247_16 (lv_at hL3 0 rfl) ?_
  refine lv_iconst (cx_ex hC) (cx_cb hC) dJ7_copyOfRangeByte_39247_18 rfl ?_
  refine lv_aload_n (cx_ex hC) (cx_cb hC) dJ7_copyOfRangeByte_39247_19 rfl (lv_at hL3 2 rfl) ?_
  have hql : q0 < w1.length := (List.getElem?_eq_some_iff.mp he).1
  have x0 : (w1 ++ [(q, (.inl (dA 1, (n.toNat, .inl fun _ => 0)) : va_E))])[q0]? = some (a, .inl (dA 1, (cap, .inl f))) := by
    rw [List.getElem?_append_left hql]
    exact he
  have x1 : (w1 ++ [(q, (.inl (dA 1, (n.toNat, .inl fun _ => 0)) : va_E))])[w1.length]? = some (q, .inl (dA 1, (n.toNat, .inl fun _ => 0))) := by
    rw [List.getElem?_append_right (Nat.le_refl _), Nat.sub_self]
    rfl
  refine va_alen (cx_ex hC) (cx_cb hC) hK hP2 q0 1 x0 (ty := .byte) rfl (v := Int32.ofInt cap) rfl dJ7_copyOfRangeByte_39247_20 ?_
  refine lv_iload_n (cx_ex hC) (cx_cb hC) dJ7_copyOfRangeByte_39247_21 rfl (lv_at hL3 3 rfl) ?_
  refine lv_isub (cx_ex hC) (cx_cb hC) dJ7_copyOfRangeByte_39247_22 ?_
  rw [sub0_]
  refine lv_iload_n (cx_ex hC) (cx_cb hC) dJ7_copyOfRangeByte_39247_23 rfl (lv_at hL3 1 rfl) ?_
  refine va_mmin (cx_ex hC) (cx_cb hC) ((cx_ml hC).trans hL3.1.symm) (cx_own hC) (cx_ts hC _ jm_J7_304.1) (cx_ts hC _ jm_J7_304.2.1) (cx_ts hC _ jm_J7_304.2.2.1) (cx_ts hC _ jm_J7_304.2.2.2) fr (by show (4 : Nat) + 13 ≤ R.locals; omega) (by omega) (by omega) dJ7_copyOfRangeByte_39247_24 ?_
  have e9 : (if Int32.ofInt n < Int32.ofInt (cap : Int) then Int32.ofInt n else Int32.ofInt (cap : Int)) = Int32.ofInt n := by
    by_cases z : n < cap
    · exact if_pos ((pI_lt (x := n) (y := cap) ⟨by omega, by omega⟩ ⟨by omega, by omega⟩).mpr z)
    · rw [if_neg (fun w => z ((pI_lt (x := n) (y := cap) ⟨by omega, by omega⟩ ⟨by omega, by omega⟩).mp w)), show (cap : Int) = n by omega]
  show W p l e R s m args below meth c H2 locs1 _ _ _ (F0 m 27 ls3 (Value.int (if Int32.ofInt n < Int32.ofInt (cap : Int) then Int32.ofInt n else Int32.ofInt (cap : Int)) :: [.int 0, .ref q, .int 0, .ref a]))
  rw [e9]
  have n0 : ¬ (0 : Int32) < 0 := by decide
  have z0 : (0 : Int32).toNatClampNeg = 0 := rfl
  have zc : (Int32.ofInt n).toNatClampNeg = n.toNat := pI_cl hn0 (by omega)
  refine va_copyi (cx_ex hC) (cx_cb hC) ((cx_ml hC).trans hL3.1.symm) (cx_own hC) (cx_ts hC _ jc_J7_150.1) (cx_ts hC _ jc_J7_150.2.1) (cx_ts hC _ jc_J7_150.2.2.1) (cx_ts hC _ jc_J7_150.2.2.2) hK hP2 hD2 hS2 q0 w1.length 1 1 x0 x1 (ty := .byte) rfl rfl rfl n0 n0 nm (by rw [z0, zc]; omega) (by rw [z0, zc]; omega) (fun i hi => ?_) fr ?_ dJ7_copyOfRangeByte_39247_27 ?_
  · rw [zc] at hi
    rw [z0, Nat.zero_add]
    exact hf i hi
  · have e : nativeFrameWords "java/lang/System" "arraycopy" 5 + 11 ≤ 24 := by decide
    show 0 + _ ≤ _
    omega
  · intro H3 locs3 hP3 hD3 hS3
    rw [List.set_append_right _ _ (Nat.le_refl _), Nat.sub_self, z0, zc] at hP3 hD3
    refine lv_aload (cx_ex hC) (cx_cb hC) dJ7_copyOfRangeByte_39247_30 (lv_at hL3 0 rfl) ?_
    have hC2 := Cx_use hC (x := 1) (y := n.toNat) ⟨hbc, hbs⟩
    refine r_aret hC2 (ws_put hC hP3 hD3 hS3) hS3 dJ7_copyOfRangeByte_39247_32 rfl (Or.inr ⟨_, rfl⟩) ⟨q, _, rfl, rfl, fun k hk => ?_⟩
    unfold va_cpy
    rw [if_pos ⟨Nat.zero_le _, by omega⟩]
    simp
theorem rm_copyR {a cap : Nat} {f : Nat → Int32} (hd : 3 ≤ d) (hn0 : 0 ≤ n) (hn1 : n.toNat ≤ cap) (hc : cap ≤ 100000) (hbc : 1 ≤ bc) (hbs : n.toNat ≤ bs) (hG : Gl_ l s0 D dA ad.2) (he : ws[q0]? = some (a, .inl (dA 1, (cap, .inl f)))) (hf : ∀ k : Nat, k < n.toNat → fits .byte (.int (f k)) = true) : RM_ l s0 D yJ7_copyOfRange_39247 MJ7_copyOfRange_39247 d bc bs [.ref a, .int 0, .int (Int32.ofInt n)] ws (ZC_ dA ws n.toNat f) := by
  refine r_enter (ad := ad) pn_J7 rfl (Nat.le_of_ble_eq_true rfl) ?_
  intro p e R s m args below meth c ls hC hW hS hL
  have hL0 : lv_has ls 3 [(0, .ref a), (1, .int 0), (2, .int (Int32.ofInt n))] := hL
  have f1 := cx_bc hC
  have f2 := cx_bs hC
  have f3 := cx_rc hC
  have f4 := cx_rs hC
  have hlo := cx_lo hC
  have fr : 1 ≤ R.frames := Nat.le_trans (by omega) (cx_fr hC)
  have hK := Gl_K hG (cx_al hC)
  refine lv_iload_n (cx_ex hC) (cx_cb hC) dJ7_copyOfRange_39247_0 rfl (lv_at hL0 1 rfl) ?_
  refine lv_if_ne (tgt := 10) (cx_ex hC) (cx_cb hC) dJ7_copyOfRange_39247_1 rfl (fun z => absurd rfl z) (fun _ => ?_)
  refine lv_iload_n (cx_ex hC) (cx_cb hC) dJ7_copyOfRange_39247_4 rfl (lv_at hL0 2 rfl) ?_
  refine lv_aload_n (cx_ex hC) (cx_cb hC) dJ7_copyOfRange_39247_5 rfl (lv_at hL0 0 rfl) ?_
  refine va_alen (cx_ex hC) (cx_cb hC) hK hW.1.1 q0 1 he (ty := .byte) rfl (v := Int32.ofInt cap) rfl dJ7_copyOfRange_39247_6 ?_
  refine lv_icmp_eq (tgt := 17) (cx_ex hC) (cx_cb hC) dJ7_copyOfRange_39247_7 rfl (fun z => ?_) (fun z => ?_)
  · have zz : n = cap := (pI_eq ⟨by omega, by omega⟩ ⟨by omega, by omega⟩).mp z
    have ecap : cap = n.toNat := by omega
    subst ecap
    have hnm := va_nm_byte (hK.2 1 (dA 1, .byte) rfl).2
    refine lv_aload_n (cx_ex hC) (cx_cb hC) dJ7_copyOfRange_39247_17 rfl (lv_at hL0 0 rfl) ?_
    refine va_clone (own := RJ7) (ad := "[B") (cx_ex hC) (cx_cb hC) ((cx_ml hC).trans hL0.1.symm) (cx_own hC) (cx_ts hC _ (tb_in 783 (by decide +kernel) (by decide +kernel))) (cx_ts hC _ (tb_in 784 (by decide +kernel) (by decide +kernel))) (cx_ts hC _ (tb_in 785 (by decide +kernel) (by decide +kernel))) (cx_ts hC _ (tb_in 786 (by decide +kernel) (by decide +kernel))) (cx_ts hC _ (tb_in 787 (by decide +kernel) (by decide +kernel))) ((kx_at hG hC).2.2.2.2.2.2.2.2.2.2.2.2.2.1 _ kxw_cl) hK hW.1.1 hW.1.2 hS (fun q hq => Nat.le_trans (cx_sz hC) hq) q0 1 he rfl hnm (va_fit (fun i hi => hf i hi)) fr (by show 0 + 14 ≤ _; omega) (by omega) (by show 0 + n.toNat ≤ _; omega) dJ7_copyOfRange_39247_18 (fun q H1 hK1 hP1 hD1 hS1 => ?_)
    have hq : H1[q]? = some (vp_cell (dA 1) (n.toNat, .inl f)) := hP1 ws.length (q, .inl (dA 1, (n.toNat, .inl f))) (by rw [List.getElem?_append_right (Nat.le_refl _), Nat.sub_self]; rfl)
    have hC2 := Cx_use hC (x := 1) (y := n.toNat) ⟨hbc, hbs⟩
    have fin : W p l e R s m args below meth c H1 [] (0 + 1) (0 + n.toNat) (vx_MQ below (QS_ s0 D (ZC_ dA ws n.toNat f)) NX_ args s bc bs (own_ s0)) (F0 m 24 ls [.ref q]) :=
      r_aret hC2 (ws_put hC hP1 hD1 hS1) hS1 dJ7_copyOfRange_39247_24 rfl (Or.inr ⟨_, rfl⟩) ⟨q, f, rfl, rfl, fun k hk => rfl⟩
    intro T hT X
    obtain ⟨vm', X', st⟩ := X.checkcastYes (index := 311) (cx_ex hC) (cx_own hC) (cx_ts hC _ (tb_in 789 (by decide +kernel) (by decide +kernel))) (by rw [hT]; exact hq) rfl hnm (va_asg _ _) (g := F0 m 21 ls [.ref q]) rfl rfl (by rw [cx_cb hC]; exact dJ7_copyOfRange_39247_21)
    obtain ⟨t, a1, b1⟩ := fin (T.setVm vm') hT X'
    exact ⟨t, st t a1, b1⟩
  · refine lv_aload_n (cx_ex hC) (cx_cb hC) dJ7_copyOfRange_39247_10 rfl (lv_at hL0 0 rfl) ?_
    refine lv_iload_n (cx_ex hC) (cx_cb hC) dJ7_copyOfRange_39247_11 rfl (lv_at hL0 1 rfl) ?_
    refine lv_iload_n (cx_ex hC) (cx_cb hC) dJ7_copyOfRange_39247_12 rfl (lv_at hL0 2 rfl) ?_
    refine r_callS (d' := d - 1) (bc' := bc) (bs' := bs) (as := [_, _, _]) (rest := []) hC hW hS hL0.1 dJ7_copyOfRange_39247_13 sf_J7_339 (dd_ (by omega) (by decide)) ⟨Nat.le_refl _, Nat.le_refl _⟩ rfl rfl (Nat.le_of_ble_eq_true rfl) (rm_copyB (by omega) hn0 hn1 hc hbc hbs hG he hf) ?_
    rintro v w1 H1 locs1 ⟨b, g, rfl, rfl, hg⟩ hW1 hS1
    exact r_aret (Cx_use hC ⟨Nat.le_refl _, Nat.le_refl _⟩) hW1 hS1 dJ7_copyOfRange_39247_16 rfl (Or.inr ⟨_, rfl⟩) ⟨b, g, rfl, rfl, hg⟩
end RMC
/-- a String, not yet filled; filled -/
abbrev SF0 : List Value := [.null, .int 0, .int 0, .int 0]
def sbx_ (ad : AD) (q0 q1 : Nat) (dA : Nat → ClassId) (h : PH) (ws : va_W) : Prop := ws[q0]? = some (ad.2 198, .inr (8, [.ref ad.1, .int 0, .int (Int32.ofInt (h 198 1)), .int (Int32.ofInt (h 198 0))])) ∧ ws[q1]? = some (ad.1, .inl (dA 1, (h 198 (-1)).toNat, .inl fun k => Int32.ofInt (h 198 (10 + k))))
/-- the String stands, and its bytes -/
def ZS_ (dA : Nat → ClassId) (w0 : va_W) (q : Nat) (n : Nat) (f : Nat → Int32) : va_W → Prop := fun w1 => ∃ (b : Nat) (g : Nat → Int32), w1 = w0 ++ [(q, .inr (10, [.ref b, .int 0, .int 0, .int 0])), (b, .inl (dA 1, (n, .inl g)))] ∧ ∀ k : Nat, k < n → g k = f k
section RMI
variable {l : Launch} {s0 : State} {D : va_G} {dA : Nat → ClassId} {ad : AD} {w0 : va_W} {d bc bs : Nat} {q q0 q1 : Nat} {h : PH}
theorem rm_initA (hd : 4 ≤ d) (hn0 : 0 ≤ h 198 0) (hn1 : h 198 0 ≤ h 198 (-1)) (hc : h 198 (-1) ≤ 100000) (hbc : 1 ≤ bc) (hbs : (h 198 0).toNat ≤ bs) (hG : Gl_ l s0 D dA ad.2) (he : sbx_ ad q0 q1 dA h w0) (hf : ∀ k : Int, 0 ≤ k → k < h 198 0 → -128 ≤ h 198 (10 + k) ∧ h 198 (10 + k) < 128) : RM_ l s0 D yJ0_init_db425 MJ0_initA d bc bs [.ref q, .ref (ad.2 198), .null] (w0 ++ [(q, .inr (10, SF0))]) (fun v w1 => v = none ∧ ZS_ dA w0 q (h 198 0).toNat (fun k => Int32.ofInt (h 198 (10 + k))) w1) := by
  refine r_enterI (ad := ad) pn_J0 rfl rfl (Nat.le_of_ble_eq_true rfl) ?_
  intro p e R s m args below meth c ls hC hW hS hL
  have hL0 : lv_has ls 5 [(0, .ref q), (1, .ref (ad.2 198)), (2, .null)] := hL
  have f1 := cx_bc hC
  have f2 := cx_bs hC
  have hK := Gl_K hG (cx_al hC)
  have l0 : q0 < w0.length := (List.getElem?_eq_some_iff.mp he.1).1
  have l1 : q1 < w0.length := (List.getElem?_eq_some_iff.mp he.2).1
  have y0 : ∀ fs : List Value, (w0 ++ [(q, (.inr (10, fs) : va_E))])[q0]? = _ := fun fs => (List.getElem?_append_left l0).trans he.1
  have y1 : ∀ fs : List Value, (w0 ++ [(q, (.inr (10, fs) : va_E))])[q1]? = _ := fun fs => (List.getElem?_append_left l1).trans he.2
  have yq : ∀ fs : List Value, (w0 ++ [(q, (.inr (10, fs) : va_E))])[w0.length]? = some (q, .inr (10, fs)) := fun fs => by
    rw [List.getElem?_append_right (Nat.le_refl _), Nat.sub_self]
    rfl
  refine lv_aload_n (cx_ex hC) (cx_cb hC) dJ0_init_db425_0 rfl (lv_at hL0 0 rfl) ?_
  refine W.objInit (cx_ex hC) (cx_cb hC) (cx_own hC) (cx_ts hC _ ob_J0_1.1) (cx_ts hC _ ob_J0_1.2.1) (cx_ts hC _ ob_J0_1.2.2) (g := F0 m 1 ls [.ref q]) rfl (hL0.1.trans (cx_ml hC).symm) rfl dJ0_init_db425_1 (Nat.le_trans (by omega) (cx_fr hC)) (by have := cx_lo hC; show 2 * 0 + 0 + 12 ≤ R.locals; omega) ?_
  refine lv_aload_n (cx_ex hC) (cx_cb hC) dJ0_init_db425_4 rfl (lv_at hL0 1 rfl) ?_
  refine r_callB (d' := d - 1) (bc' := 0) (bs' := 0) (as := []) (rest := []) hG hC hW hS hL0.1 (y0 _) dJ0_init_db425_5 bf_J0_552 (dd_ (by omega) (by decide)) ⟨Nat.zero_le _, Nat.zero_le _⟩ rfl rfl (Nat.le_of_ble_eq_true rfl) (rm_getValue hG (y0 _)) ?_
  rintro v w1 H1 locs1 ⟨rfl, rfl⟩ hW1 hS1
  refine lv_astore_n (cx_ex hC) (cx_cb hC) dJ0_init_db425_8 rfl hL0 (by decide) rfl (fun ls2 (hL2 : lv_has ls2 5 [(3, .ref ad.1), (0, .ref q), (1, .ref (ad.2 198)), (2, .null)]) => ?_)
  refine lv_aload_n (cx_ex hC) (cx_cb hC) dJ0_init_db425_9 rfl (lv_at hL2 2 rfl) ?_
  refine r_callU (d' := d - 1) (bc' := 0) (bs' := 0) (rest := []) hG hC hW1 hS1 hL2.1 (y0 _) dJ0_init_db425_10 lk_J0_549 (dd_ (by omega) (by decide)) ⟨Nat.zero_le _, Nat.zero_le _⟩ rfl (Nat.le_of_ble_eq_true rfl) (rm_length4 (by omega) hG (y0 _)) ?_
  rintro v w2 H2 locs2 ⟨rfl, rfl⟩ hW2 hS2
  refine lv_istore (cx_ex hC) (cx_cb hC) dJ0_init_db425_13 hL2 (by decide) rfl (fun ls3 (hL3 : lv_has ls3 5 [(4, .int (Int32.ofInt (h 198 0))), (3, .ref ad.1), (0, .ref q), (1, .ref (ad.2 198)), (2, .null)]) => ?_)
  refine lv_aload_n (cx_ex hC) (cx_cb hC) dJ0_init_db425_15 rfl (lv_at hL3 3 rfl) ?_
  refine r_callB (d' := d - 1) (bc' := 0) (bs' := 0) (as := []) (rest := []) hG hC hW2 hS2 hL3.1 (y0 _) dJ0_init_db425_16 bf_J0_1047 (dd_ (by omega) (by decide)) ⟨Nat.zero_le _, Nat.zero_le _⟩ rfl rfl (Nat.le_of_ble_eq_true rfl) (rm_isLatin1 hG (y0 _)) ?_
  rintro v w3 H3 locs3 ⟨rfl, rfl⟩ hW3 hS3
  refine lv_if_eq (tgt := 41) (cx_ex hC) (cx_cb hC) dJ0_init_db425_19 rfl (fun z => absurd z (by decide)) (fun _ => ?_)
  refine lv_aload_n (cx_ex hC) (cx_cb hC) dJ0_init_db425_22 rfl (lv_at hL3 2 rfl) ?_
  refine lv_iconst (cx_ex hC) (cx_cb hC) dJ0_init_db425_23 rfl ?_
  refine va_putF (C := RJ0) (T := TJ0) (N := 4) (cx_ex hC) (cx_cb hC) (cx_ts hC) kwJ0 tyJ0 tyJ0_ok nmJ0 (cx_own hC) hK hW3.1.1 hW3.1.2 hS3 w0.length (yq _) rfl 1 (by decide) (cx_ts hC _ fl_J0_15) (fun _ q => q) rfl (cx_e hC).2 rfl (tyJ0_ok 1 (by decide)) (v := .int 0) rfl rfl (show 1 < 4 by decide) dJ0_init_db425_24 ?_
  intro H4 locs4 hP4 hD4 hS4
  rw [List.set_append_right _ _ (Nat.le_refl _), Nat.sub_self] at hP4 hD4
  have hW4 : WS_ s0 D (w0 ++ [(q, .inr (10, SF0))]) H4 := ws_put hC hP4 hD4 hS4
  refine lv_aload_n (cx_ex hC) (cx_cb hC) dJ0_init_db425_27 rfl (lv_at hL3 2 rfl) ?_
  refine lv_aload_n (cx_ex hC) (cx_cb hC) dJ0_init_db425_28 rfl (lv_at hL3 1 rfl) ?_
  refine lv_iconst (cx_ex hC) (cx_cb hC) dJ0_init_db425_29 rfl ?_
  refine lv_iload (cx_ex hC) (cx_cb hC) dJ0_init_db425_30 (lv_at hL3 0 rfl) ?_
  refine r_callS (d' := d - 1) (bc' := bc) (bs' := bs) (as := [.ref ad.1, .int 0, .int (Int32.ofInt (h 198 0))]) (rest := [.ref q]) hC hW4 hS4 hL3.1 dJ0_init_db425_32 sf_J0_54 (dd_ (by omega) (by decide)) ⟨Nat.le_refl _, Nat.le_refl _⟩ rfl rfl (Nat.le_of_ble_eq_true rfl) (rm_copyR (by omega) hn0 (by omega) (by omega) hbc hbs hG (y1 _) (fun k hk => fit_b (hf k (by omega) (by omega)).1 (hf k (by omega) (by omega)).2)) ?_
  rintro v w5 H5 locs5 ⟨b, g, rfl, rfl, hg⟩ hW5 hS5
  have yb : (w0 ++ [(q, (.inr (10, SF0) : va_E))] ++ [(b, (.inl (dA 1, ((h 198 0).toNat, .inl g)) : va_E))])[w0.length]? = some (q, .inr (10, SF0)) := by
    rw [List.getElem?_append_left (by simp)]
    exact yq _
  refine va_putF (C := RJ0) (T := TJ0) (N := 4) (cx_ex hC) (cx_cb hC) (cx_ts hC) kwJ0 tyJ0 tyJ0_ok nmJ0 (cx_own hC) hK hW5.1.1 hW5.1.2 hS5 w0.length yb rfl 0 (by decide) (cx_ts hC _ fl_J0_9) (fun _ q => q) rfl (cx_e hC).2 rfl (tyJ0_ok 0 (by decide)) (v := .ref b) rfl rfl (show 0 < 4 by decide) dJ0_init_db425_35 ?_
  intro H6 locs6 hP6 hD6 hS6
  rw [List.append_assoc, List.set_append_right _ _ (Nat.le_refl _), Nat.sub_self] at hP6 hD6
  refine lv_goto (tgt := 97) (cx_ex hC) (cx_cb hC) dJ0_init_db425_38 rfl ?_
  exact r_vret (Cx_use hC ⟨Nat.le_refl _, Nat.le_refl _⟩) (ws_put hC hP6 hD6 hS6) hS6 dJ0_init_db425_97 rfl ⟨rfl, b, g, rfl, hg⟩
theorem rm_initS (hd : 5 ≤ d) (hn0 : 0 ≤ h 198 0) (hn1 : h 198 0 ≤ h 198 (-1)) (hc : h 198 (-1) ≤ 100000) (hbc : 1 ≤ bc) (hbs : (h 198 0).toNat ≤ bs) (hG : Gl_ l s0 D dA ad.2) (he : sbx_ ad q0 q1 dA h w0) (hf : ∀ k : Int, 0 ≤ k → k < h 198 0 → -128 ≤ h 198 (10 + k) ∧ h 198 (10 + k) < 128) : RM_ l s0 D yJ0_init_81219 MJ0_initS d bc bs [.ref q, .ref (ad.2 198)] (w0 ++ [(q, .inr (10, SF0))]) (fun v w1 => v = none ∧ ZS_ dA w0 q (h 198 0).toNat (fun k => Int32.ofInt (h 198 (10 + k))) w1) := by
  refine r_enterI (ad := ad) pn_J0 rfl rfl (Nat.le_of_ble_eq_true rfl) ?_
  intro p e R s m args below meth c ls hC hW hS hL
  have hL0 : lv_has ls 2 [(0, .ref q), (1, .ref (ad.2 198))] := hL
  refine lv_aload_n (cx_ex hC) (cx_cb hC) dJ0_init_81219_0 rfl (lv_at hL0 0 rfl) ?_
  refine lv_aload_n (cx_ex hC) (cx_cb hC) dJ0_init_81219_1 rfl (lv_at hL0 1 rfl) ?_
  refine lv_null (cx_ex hC) (cx_cb hC) dJ0_init_81219_2 ?_
  refine r_callC (d' := d - 1) (bc' := bc) (bs' := bs) (as := [.ref (ad.2 198), .null]) (rest := []) hC hW hS hL0.1 dJ0_init_81219_3 if_J0_489 (dd_ (by omega) (by decide)) ⟨Nat.le_refl _, Nat.le_refl _⟩ rfl rfl (Nat.le_of_ble_eq_true rfl) (rm_initA (by omega) hn0 hn1 hc hbc hbs hG he hf) ?_
  rintro v w1 H1 locs1 ⟨rfl, hz⟩ hW1 hS1
  exact r_vret (Cx_use hC ⟨Nat.le_refl _, Nat.le_refl _⟩) hW1 hS1 dJ0_init_81219_6 rfl ⟨rfl, hz⟩
theorem rm_toString (hd : 6 ≤ d) (hn0 : 0 ≤ h 198 0) (hn1 : h 198 0 ≤ h 198 (-1)) (hc : h 198 (-1) ≤ 100000) (hbc : 2 ≤ bc) (hbs : (h 198 0).toNat + 4 ≤ bs) (hG : Gl_ l s0 D dA ad.2) (he : sbx_ ad q0 q1 dA h w0) (hf : ∀ k : Int, 0 ≤ k → k < h 198 0 → -128 ≤ h 198 (10 + k) ∧ h 198 (10 + k) < 128) : RM_ l s0 D yJ4_toString_0e30d MJ4_toString d bc bs [.ref (ad.2 198)] w0 (fun v w1 => ∃ q : Nat, v = some (.ref q) ∧ ZS_ dA w0 q (h 198 0).toNat (fun k => Int32.ofInt (h 198 (10 + k))) w1) := by
  refine r_enter (ad := ad) pn_J4 rfl (Nat.le_of_ble_eq_true rfl) ?_
  intro p e R s m args below meth c ls hC hW hS hL
  have f1 := cx_bc hC
  have f2 := cx_bs hC
  have f3 := cx_rc hC
  have f4 := cx_rs hC
  have hK := Gl_K hG (cx_al hC)
  have hKn := hK.1 10 _ rfl
  refine va_new (T := TJ0) (N := 4) (ci := 10) (cx_ex hC) (cx_cb hC) (cx_ts hC) kwJ0 tyJ0 tyJ0_ok (cx_own hC) (cx_ts hC _ (tb_in 936 (by decide +kernel) (by decide +kernel))) (cx_ts hC _ (tb_in 937 (by decide +kernel) (by decide +kernel))) (cx_ts hC _ (tb_in 58 (by decide +kernel) (by decide +kernel))) hK hW.1.1 hW.1.2 hS (fun q hq => Nat.le_trans (cx_sz hC) hq) rfl (fs := SF0) (fun j hj => ?_) (by omega) (by omega) dJ4_toString_0e30d_0 (fun q H1 hP1 hD1 hS1 => ?_)
  · match j, hj with
    | 0, _ => rfl
    | 1, _ => rfl
    | 2, _ => rfl
    | 3, _ => rfl
  · have hC1 := Cx_use hC (x := 1) (y := 4) ⟨by omega, by omega⟩
    refine lv_dup (cx_ex hC) (cx_cb hC) dJ4_toString_0e30d_3 rfl ?_
    refine lv_aload_n (cx_ex hC) (cx_cb hC) dJ4_toString_0e30d_4 rfl (hL.2.2 (0, .ref (ad.2 198)) List.mem_cons_self) ?_
    refine r_callC (d' := d - 1) (bc' := bc - 1) (bs' := bs - 4) (as := [.ref (ad.2 198)]) (rest := [.ref q]) hC1 (ws_put hC hP1 hD1 hS1) hS1 hL.1 dJ4_toString_0e30d_5 if_J4_137 (dd_ (by omega) (by decide)) ⟨Nat.le_refl _, Nat.le_refl _⟩ rfl rfl (Nat.le_of_ble_eq_true rfl) (rm_initS (by omega) hn0 hn1 hc (by omega) (by omega) hG he hf) ?_
    rintro v w1 H2 locs2 ⟨rfl, hz⟩ hW2 hS2
    exact r_aret (Cx_use hC1 ⟨Nat.le_refl _, Nat.le_refl _⟩) hW2 hS2 dJ4_toString_0e30d_8 rfl (Or.inl ⟨_, rfl⟩) ⟨q, rfl, hz⟩
end RMI
