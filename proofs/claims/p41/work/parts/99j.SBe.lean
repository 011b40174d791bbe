/-! the text that is written: room for more, letters put behind it -/
section SBE
variable {E : EP} {M : PM} {d bc bs : Nat} {Q : PQ} {h : PH}
set_option maxRecDepth 100000 in
set_option maxHeartbeats 4000000 in
theorem s_grow {m cap : Int} {idx i2 pc : Nat} {L st : List PV} (hd : decode M.2.1 pc = .ok (.invokestatic idx, 3)) (sf : SF_ M.1 idx yJ7_copyOf_9075b MJ7_copyOf_9075b 2) (hd2 : decode M.2.1 (pc + 3) = .ok (.putfield i2, 3)) (hw : Cond.fieldLink M.1 i2 "java/lang/AbstractStringBuilder" "value" "[B" ∈ TBL) (d2 : 2 ≤ d) (hcap : h 198 (-1) = cap) (c0 : 0 ≤ cap) (cm : cap < m) (m1 : m ≤ 100000) (hbc : 1 ≤ bc) (hbs : m.toNat ≤ bs)
    (hby : ∀ k : Int, 0 ≤ k → k < cap → -128 ≤ h 198 (10 + k) ∧ h 198 (10 + k) < 128) (hcat : pcat_ ((2, 198) :: st) ≤ 8) (kk : SE_ E M d (bc - 1) (bs - m.toNat) Q (pc + 3 + 3) L st nM (gw_ h m)) (h5 : nk5_ L = true := by rfl) (h6 : nk5_ st = true := by rfl) : SE_ E M d bc bs Q pc L ((0, m) :: (5, 0) :: (2, 198) :: st) nM h := by
  intro l s0 D dA ad p e R s m9 args below meth c H locs cells slots mc ms ls hG hC hW hL
  have run := run5S (as := [(5, 0), (0, m)]) (st := (2, 198) :: st) (n := 2) (d' := d - 1) (bc' := 1) (bs' := m.toNat) (stk := (0, m) :: (5, 0) :: (2, 198) :: st) (e := e) (below := below) hG hC hW hL hd sf (dd_ (by omega) (by decide)) ⟨hbc, hbs⟩ rfl rfl hcat (c5_J7_copyOf_9075b (d := d - 1) (PX := fun _ _ _ => False) (by omega) hcap c0 cm m1 (Nat.le_refl _) (Nat.le_refl _) hby)
  have hC' : Cx_ E ad.2 M d (bc - 1) (bs - m.toNat) s0 p R s m9 args meth c (cells + 1) (slots + m.toNat) mc ms := by
    obtain ⟨q1, q2, q3, q4, q5, q6, q7, q8, q9, q10, q11, q12, q13, q14, q15⟩ := hC
    exact ⟨q1, q2, q3, q4, q5, q6, q7, q8, q9, q10, q11, q12, by omega, by omega, q15⟩
  intro T hT X
  rcases run T hT X with ⟨v, st₀, t, T', Lx, h0, X', hLx, e1, e2, ⟨⟨a', hv, hP, hD, hz, ho⟩, hF⟩, stp⟩ | ⟨q, st₀, t, T', Lx, E9, ce, h0, X', hLx, e1, e2, ⟨⟨ad', N', h', ea, hp, hWd⟩, hF⟩, hce, hcv, hcl, stp⟩
  · cases hv
    obtain ⟨k1, k2, k3⟩ := vx_keep h0 e1 hW.2 (fun _ _ z => z) (fun _ z => z) hLx hF
    have hK := Gl_K hG (cx_al hC)
    have e195 : (wl_ ad dA nM h ++ [(a', (.inl (dA 1, m.toNat, .inl fun k : Nat => Int32.ofInt (gw_ h m 198 (10 + (k : Int)))) : va_E))])[198]? = some (ad.2 198, .inr (8, [.ref ad.1, .int 0, .int (Int32.ofInt (h 198 1)), .int (Int32.ofInt (h 198 0))])) := by
      rw [List.getElem?_append_left (by rw [wl_len]; decide)]
      exact wl_195
    have w : W p l e R s m9 args below meth c T'.heap (locs ++ Lx) (cells + 1) (slots + m.toNat) (vx_MQ below (Qc_ s0 D dA ad Q.1) (XC_ s0 D dA ad Q.2) args s mc ms (own_ s0)) (F0 m9 (pc + 3) ls (.ref a' :: .ref (ad.2 198) :: st.map (rv_ ad))) := by
      refine va_put (C := RJ4) (T := TJ4) (N := 4) (cx_ex hC) (cx_cb hC) (cx_ts hC) kwJ4 tyJ4 tyJ4_ok nmJ4 (cx_own hC) hK (by rw [e1]; exact hP) hD k3 198 e195 rfl 0 (by decide) ((cx_ts hC) _ hw) (fun _ q => q) rfl (tyJ4_ok 0 (by decide)) (v := .ref a') rfl rfl (show 0 < 4 by decide) hd2 ?_
      intro H1 locs1 hP1 hD1 hS1
      have lay : ∀ (k : Nat) (q : Nat × va_E), (wl_ (a', ad.2) dA nM (gw_ h m))[k]? = some q → ((wl_ ad dA nM h ++ [(a', (.inl (dA 1, m.toNat, .inl fun k : Nat => Int32.ofInt (gw_ h m 198 (10 + (k : Int)))) : va_E))]).set 198 (ad.2 198, .inr (8, ([.ref ad.1, .int 0, .int (Int32.ofInt (h 198 1)), .int (Int32.ofInt (h 198 0))] : List Value).set 0 (.ref a'))))[if k = 199 then 200 else k]? = some q := by
        intro k q hq
        by_cases c2 : k = 199
        · subst c2
          rw [if_pos rfl, List.getElem?_set_ne (by decide), List.getElem?_append_right (by rw [wl_len]; exact Nat.le_refl _), wl_len]
          rw [wl_225, gw_c] at hq
          exact hq
        · rw [if_neg c2]
          by_cases c3 : k = 198
          · subst c3
            rw [List.getElem?_set_self (by rw [List.length_append, wl_len]; omega)]
            rw [wl_195, gw_lo (by omega) (by omega), gw_lo (by omega) (by omega)] at hq
            exact hq
          · rw [List.getElem?_set_ne (fun z => c3 z.symm)]
            by_cases c4 : k < 199
            · rw [List.getElem?_append_left (by rw [wl_len]; omega), ← wl_ent (ad := ad) (ad' := (a', ad.2)) (h' := gw_ h m) rfl gw_B c4 c3]
              exact hq
            · rw [wl_none (by omega)] at hq
              cases hq
      have hPn : va_P D ucl (wl_ (a', ad.2) dA nM (gw_ h m)) H1 := fun k q hq => hP1 _ q (lay k q hq)
      have hDn : va_D (own_ s0) (wl_ (a', ad.2) dA nM (gw_ h m)) := ⟨fun i j p q hi hj z => by
        have hh := hD1.1 _ _ p q (lay i p hi) (lay j q hj) z
        have li : i < 200 := by have := (List.getElem?_eq_some_iff.mp hi).1; rw [wl_len] at this; exact this
        have lj : j < 200 := by have := (List.getElem?_eq_some_iff.mp hj).1; rw [wl_len] at this; exact this
        split at hh <;> split at hh <;> omega, fun k q hq => hD1.2 _ q (lay k q hq)⟩
      have k9 := kk l s0 D dA (a', ad.2) p e R s m9 args below meth c H1 locs1 (cells + 1) (slots + m.toNat) mc ms ls hG hC' (Wd_put (by decide) (cx_sz hC) (cx_ag hC) hPn hDn hS1) (by rw [as_same (ad := ad) (ad' := (a', ad.2)) rfl 0 h5]; exact hL)
      rw [rv_map (ad := ad) (ad' := (a', ad.2)) rfl h6] at k9
      exact k9
    obtain ⟨t2, a1, b1⟩ := w T' rfl X'
    exact ⟨t2, stp t2 a1, b1⟩
  · exact hp.elim
/-- the text's array: how many places, how many letters, what stands there are bytes -/
def B5_ (h : PH) : Prop := (16 ≤ h 198 (-1) ∧ h 198 (-1) ≤ 962) ∧ (0 ≤ h 198 0 ∧ h 198 0 ≤ h 198 (-1)) ∧ ∀ k : Int, 0 ≤ k → k < h 198 (-1) → -128 ≤ h 198 (10 + k) ∧ h 198 (10 + k) < 128
/-- room for q letters: what stands then, what it costs -/
def eh_ (h : PH) (q : Int) : PH := if h 198 (-1) < q then gw_ h (2 * h 198 (-1) + 2) else h
def eb_ (h : PH) (q : Int) : Nat := if h 198 (-1) < q then 1 else 0
def es_ (h : PH) (q : Int) : Nat := if h 198 (-1) < q then (2 * h 198 (-1) + 2).toNat else 0
/-- all but the text is as it was -/
def FB (h h' : PH) : Prop := ∀ x : Int, x ≠ 198 → h' x = h x
theorem FB.rf (h : PH) : FB h h := fun _ _ => rfl
theorem FB.tr {h1 h2 : PH} (a : FB h h1) (b : FB h1 h2) : FB h h2 := fun x hx => (b x hx).trans (a x hx)
theorem eh_B {q : Int} : FB h (eh_ h q) := by
  unfold eh_
  split
  · exact gw_B
  · exact FB.rf h
theorem eh_n {q k : Int} (B : B5_ h) (k0 : 0 ≤ k) (k1 : k < 10) : eh_ h q 198 k = h 198 k := by
  unfold eh_
  split
  · exact gw_lo (by omega) (by have := B.1.1; omega)
  · rfl
theorem eh_l {q k : Int} (k0 : 0 ≤ k) (k1 : k < h 198 (-1)) : eh_ h q 198 (10 + k) = h 198 (10 + k) := by
  unfold eh_
  split
  · exact gw_lo (by omega) (by omega)
  · rfl
theorem eh_b {q : Int} (B : B5_ h) (q1 : q ≤ 480) (q2 : q ≤ h 198 (-1) + 16) : B5_ (eh_ h q) ∧ q ≤ eh_ h q 198 (-1) ∧ h 198 (-1) ≤ eh_ h q 198 (-1) := by
  obtain ⟨⟨b1, b2⟩, ⟨b3, b4⟩, b5⟩ := B
  unfold eh_
  split
  · rename_i c
    refine ⟨⟨⟨by rw [gw_c]; omega, by rw [gw_c]; omega⟩, ⟨by rw [gw_lo (by omega) (by omega)]; exact b3, by rw [gw_lo (by omega) (by omega), gw_c]; omega⟩, fun k k0 k1 => ?_⟩, by rw [gw_c]; omega, by rw [gw_c]; omega⟩
    by_cases c2 : k < h 198 (-1)
    · rw [gw_lo (by omega) (by omega)]
      exact b5 k k0 c2
    · rw [gw_hi (by omega) (by omega)]
      decide
  · rename_i c
    exact ⟨⟨⟨b1, b2⟩, ⟨b3, b4⟩, b5⟩, by omega, Int.le_refl _⟩
theorem eh_g {q : Int} (B : B5_ h) (hG : G h) : G (eh_ h q) := by
  unfold eh_
  split
  · exact gw_g hG ⟨by have := B.1.1; omega, by have := B.1.2; omega⟩
  · exact hG
/-- what may still be made is enough for all that a report may want -/
def PT_ (bc bs : Nat) (h : PH) : Prop := 1000 ≤ (bc : Int) + h 198 (-1) ∧ 3000 ≤ (bs : Int) + 2 * h 198 (-1)
theorem pt_eh {q : Int} (p : PT_ bc bs h) (B : B5_ h) (q1 : q ≤ 480) {h' : PH} (e : h' 198 (-1) = eh_ h q 198 (-1)) : (eb_ h q ≤ bc ∧ es_ h q ≤ bs) ∧ PT_ (bc - eb_ h q) (bs - es_ h q) h' := by
  obtain ⟨⟨b1, b2⟩, -, -⟩ := B
  obtain ⟨p1, p2⟩ := p
  unfold PT_
  rw [e]
  unfold eb_ es_ eh_
  by_cases c : h 198 (-1) < q
  · rw [if_pos c, if_pos c, if_pos c, gw_c]
    omega
  · rw [if_neg c, if_neg c, if_neg c]
    omega
set_option maxRecDepth 100000 in
set_option maxHeartbeats 4000000 in
theorem c_J5_ensure {q : Int} (hd : 3 ≤ d) (B : B5_ h) (hG : G h) (q0 : 0 ≤ q) (q1 : q ≤ 480) (q2 : q ≤ h 198 (-1) + 16) (hbc : eb_ h q ≤ bc) (hbs : es_ h q ≤ bs) (k : G (eh_ h q) → Q.1 none nM (eh_ h q)) : Cl_ yJ5_ensureCapacityInternal_d00df MJ5_ensureCapacityInternal_d00df d bc bs [(2, 198), (0, q)] nM h Q := by
  refine s_enter pn_J5 rfl (Nat.le_of_ble_eq_true rfl) (L := [(2, _), (0, _), (9, 0)]) rfl ?_
  have b1 := B.1
  refine s_aload_n dJ5_ensureCapacityInternal_d00df_0 rfl ?_
  refine s_getv dJ5_ensureCapacityInternal_d00df_1 fl_J5_15 ?_
  refine s_alen5 dJ5_ensureCapacityInternal_d00df_4 (by omega) rfl ?_
  refine s_aload_n dJ5_ensureCapacityInternal_d00df_5 rfl ?_
  refine s_getk dJ5_ensureCapacityInternal_d00df_6 fl_J5_22 ?_
  refine s_ishr dJ5_ensureCapacityInternal_d00df_9 (by first | exact hG.2 _ _ | exact b01_in _ | assumption | exact ⟨by omega, by omega⟩) (by omega) (by omega) ?_
  rw [dv0_]
  refine s_istore_n dJ5_ensureCapacityInternal_d00df_10 (by decide) rfl (L' := [_, _, _]) rfl ?_
  refine s_iload_n dJ5_ensureCapacityInternal_d00df_11 rfl ?_
  refine s_iload_n dJ5_ensureCapacityInternal_d00df_12 rfl ?_
  refine s_isub dJ5_ensureCapacityInternal_d00df_13 ?_
  refine s_if_le (tgt := 38) dJ5_ensureCapacityInternal_d00df_14 (by decide) (by first | exact hG.2 _ _ | exact b01_in _ | assumption | exact ⟨by omega, by omega⟩) (fun c1 => ?_) (fun c1 => ?_)
  · have eg : eh_ h q = h := if_neg (by omega)
    rw [eg] at k--go
    exact s_return dJ5_ensureCapacityInternal_d00df_38 rfl (k hG)
  · refine s_aload_n dJ5_ensureCapacityInternal_d00df_17 rfl ?_
    refine s_aload_n dJ5_ensureCapacityInternal_d00df_18 rfl ?_
    refine s_getv dJ5_ensureCapacityInternal_d00df_19 fl_J5_15 ?_
    refine s_aload_n dJ5_ensureCapacityInternal_d00df_22 rfl ?_
    refine s_iload_n dJ5_ensureCapacityInternal_d00df_23 rfl ?_
    refine e5_callB (d' := d - 1) (as := [_]) dJ5_ensureCapacityInternal_d00df_24 bf_J5_104 (dd_ (by omega) (by decide)) rfl rfl (Nat.le_of_ble_eq_true rfl) ?_
    refine c5_J5_newCapacity_0f7a4 (by omega) rfl (by omega) (by omega) (by omega) (by omega) ?_
    rw [show h 198 (-1) + max (q - h 198 (-1)) (h 198 (-1) + 2) = 2 * h 198 (-1) + 2 from by omega]
    refine s_aload_n dJ5_ensureCapacityInternal_d00df_27 rfl ?_
    refine s_getk dJ5_ensureCapacityInternal_d00df_28 fl_J5_22 ?_
    refine s_ishl dJ5_ensureCapacityInternal_d00df_31 (by omega) (by omega) ?_
    rw [sh0_]
    have eg : eh_ h q = gw_ h (2 * h 198 (-1) + 2) := if_pos (by omega)
    have e2 : eb_ h q = 1 := if_pos (by omega)
    have e3 : es_ h q = (2 * h 198 (-1) + 2).toNat := if_pos (by omega)
    rw [eg] at k
    refine s_grow dJ5_ensureCapacityInternal_d00df_32 sf_J5_108 dJ5_ensureCapacityInternal_d00df_35 fl_J5_15 (by omega) rfl (by omega) (by omega) (by omega) (by omega) (by omega) B.2.2 (Nat.le_of_ble_eq_true rfl) ?_
    exact s_return dJ5_ensureCapacityInternal_d00df_38 rfl (k (gw_g hG ⟨by omega, by omega⟩))
set_option maxRecDepth 100000 in
set_option maxHeartbeats 4000000 in
theorem c_J5_isLatin1_aae02   (k : Q.1 (some (0, 1)) nM h) : Cl_ yJ5_isLatin1_aae02 MJ5_isLatin1_aae02 d bc bs [(2, 198)] nM h Q := by
  refine s_enter pn_J5 rfl (Nat.le_of_ble_eq_true rfl) (L := [(2, _)]) rfl ?_
  refine s_getsC dJ5_isLatin1_aae02_0 fl_J5_18 ?_
  refine s_if_eq (tgt := 17) dJ5_isLatin1_aae02_3 (by decide) (by first | exact hG.2 _ _ | exact b01_in _ | assumption | exact ⟨by omega, by omega⟩) (fun c1 => ?_) (fun c1 => ?_)
  · exact absurd c1 (by decide)
  · refine s_aload_n dJ5_isLatin1_aae02_6 rfl ?_
    refine s_getk dJ5_isLatin1_aae02_7 fl_J5_22 ?_
    refine s_if_ne (tgt := 17) dJ5_isLatin1_aae02_10 (by decide) (by first | exact hG.2 _ _ | exact b01_in _ | assumption | exact ⟨by omega, by omega⟩) (fun c2 => ?_) (fun c2 => ?_)
    · exact absurd rfl c2
    · refine s_iconst dJ5_isLatin1_aae02_13 ?_
      refine s_goto (tgt := 18) dJ5_isLatin1_aae02_14 (by decide) ?_
      exact s_zreturn dJ5_isLatin1_aae02_18 rfl (Or.inr rfl) k
set_option maxRecDepth 100000 in
set_option maxHeartbeats 4000000 in
theorem c_J1_canEncode_fc78d {c : Int} (c0 : 0 ≤ c) (c1 : c < 128) (k : Q.1 (some (0, 1)) nM h) : Cl_ yJ1_canEncode_fc78d MJ1_canEncode_fc78d d bc bs [(0, c)] nM h Q := by
  refine s_enter pn_J1 rfl (Nat.le_of_ble_eq_true rfl) (L := [(0, _)]) rfl ?_
  refine s_iload_n dJ1_canEncode_fc78d_0 rfl ?_
  refine s_sipush dJ1_canEncode_fc78d_1 (by decide) ?_
  refine s_icmp_gt (tgt := 11) dJ1_canEncode_fc78d_4 (by decide) (by first | exact hG.2 _ _ | exact b01_in _ | assumption | exact ⟨by omega, by omega⟩) (by first | exact hG.2 _ _ | exact b01_in _ | assumption | exact ⟨by omega, by omega⟩) (fun a1 => ?_) (fun a1 => ?_)
  · exact absurd a1 (by omega)
  · refine s_iconst dJ1_canEncode_fc78d_7 ?_
    refine s_goto (tgt := 12) dJ1_canEncode_fc78d_8 (by decide) ?_
    exact s_zreturn dJ1_canEncode_fc78d_12 rfl (Or.inr rfl) k
end SBE
