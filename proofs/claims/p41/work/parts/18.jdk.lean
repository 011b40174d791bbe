/-! the JDK's own methods that the code calls: Math.max, min, System.arraycopy, Arrays.fill -/
def JM_ (own : String) (idx : Nat) (y : MethodName) (bs : ByteArray) : Prop := Cond.methodLink own idx y ∈ TBL ∧ Cond.static y ∈ TBL ∧ Cond.initialized "java/lang/Math" ∈ TBL ∧ Cond.code y bs 2 (some .int) ∈ TBL
def JC_ (own : String) (idx : Nat) : Prop := Cond.methodLink own idx arraycopyName ∈ TBL ∧ Cond.native arraycopyName ∈ TBL ∧ Cond.static arraycopyName ∈ TBL ∧ Cond.initialized "java/lang/System" ∈ TBL
theorem jm_X1_41 : JM_ RX1 41 Lib.Math.max.name Lib.Math.max.code := ⟨tb_in 201 (by decide +kernel) (by decide +kernel), tb_in 202 (by decide +kernel) (by decide +kernel), tb_in 62 (by decide +kernel) (by decide +kernel), tb_in 203 (by decide +kernel) (by decide +kernel)⟩
theorem jm_X1_35 : JM_ RX1 35 Lib.Math.min.name Lib.Math.min.code := ⟨tb_in 182 (by decide +kernel) (by decide +kernel), tb_in 183 (by decide +kernel) (by decide +kernel), tb_in 62 (by decide +kernel) (by decide +kernel), tb_in 184 (by decide +kernel) (by decide +kernel)⟩
theorem jm_X5_152 : JM_ RX5 152 Lib.Math.max.name Lib.Math.max.code := ⟨tb_in 253 (by decide +kernel) (by decide +kernel), tb_in 202 (by decide +kernel) (by decide +kernel), tb_in 62 (by decide +kernel) (by decide +kernel), tb_in 203 (by decide +kernel) (by decide +kernel)⟩
theorem jm_X5_183 : JM_ RX5 183 Lib.Math.min.name Lib.Math.min.code := ⟨tb_in 275 (by decide +kernel) (by decide +kernel), tb_in 183 (by decide +kernel) (by decide +kernel), tb_in 62 (by decide +kernel) (by decide +kernel), tb_in 184 (by decide +kernel) (by decide +kernel)⟩
theorem jm_X8_266 : JM_ RX8 266 Lib.Math.max.name Lib.Math.max.code := ⟨tb_in 336 (by decide +kernel) (by decide +kernel), tb_in 202 (by decide +kernel) (by decide +kernel), tb_in 62 (by decide +kernel) (by decide +kernel), tb_in 203 (by decide +kernel) (by decide +kernel)⟩
theorem jc_X1_29 : JC_ RX1 29 := ⟨tb_in 179 (by decide +kernel) (by decide +kernel), tb_in 181 (by decide +kernel) (by decide +kernel), tb_in 180 (by decide +kernel) (by decide +kernel), tb_in 64 (by decide +kernel) (by decide +kernel)⟩
theorem jc_X3_24 : JC_ RX3 24 := ⟨tb_in 1097 (by decide +kernel) (by decide +kernel), tb_in 181 (by decide +kernel) (by decide +kernel), tb_in 180 (by decide +kernel) (by decide +kernel), tb_in 64 (by decide +kernel) (by decide +kernel)⟩
theorem jc_X2_21 : JC_ RX2 21 := ⟨tb_in 1199 (by decide +kernel) (by decide +kernel), tb_in 181 (by decide +kernel) (by decide +kernel), tb_in 180 (by decide +kernel) (by decide +kernel), tb_in 64 (by decide +kernel) (by decide +kernel)⟩
abbrev MJ7_fill_53178 : PM := (RJ7, cJ7_fill_53178, 4, none)
theorem cfJ7_fill_53178 : CF_ yJ7_fill_53178 MJ7_fill_53178 2 := ⟨tb_in 63 (by decide +kernel) (by decide +kernel), tb_in 223 (by decide +kernel) (by decide +kernel), ⟨by decide +kernel, by decide +kernel⟩, np_len (by decide +kernel)⟩
theorem sf_X5_89 : SF_ RX5 89 yJ7_fill_53178 MJ7_fill_53178 2 := ⟨cfJ7_fill_53178, tb_in 221 (by decide +kernel) (by decide +kernel), tb_in 222 (by decide +kernel) (by decide +kernel)⟩
theorem sf_X2_15 : SF_ RX2 15 yJ7_fill_53178 MJ7_fill_53178 2 := ⟨cfJ7_fill_53178, tb_in 1029 (by decide +kernel) (by decide +kernel), tb_in 222 (by decide +kernel) (by decide +kernel)⟩
theorem pn_J7 : plainName RJ7 = true := by decide +kernel
/-- places dp .. of b are what places sp .. of a were -/
def cp_ (h : PH) (a sp b dp n : Int) : PH := fun x y => if x = b ∧ dp ≤ y ∧ y < dp + n then h a (sp + (y - dp)) else h x y
theorem cp_ne {h : PH} {a sp b dp n x y : Int} (e : ¬ x = b) : cp_ h a sp b dp n x y = h x y := if_neg (fun q => e q.1)
theorem cp_in {h : PH} {a sp b dp n y : Int} (e1 : dp ≤ y) (e2 : y < dp + n) : cp_ h a sp b dp n b y = h a (sp + (y - dp)) := if_pos ⟨rfl, e1, e2⟩
theorem cp_out {h : PH} {a sp b dp n y : Int} (e : ¬ (dp ≤ y ∧ y < dp + n)) : cp_ h a sp b dp n b y = h b y := if_neg (fun q => e q.2)
theorem g_cp {h : PH} {a sp b dp n : Int} {t k : Nat} (hG : G h) (A : isA nN b t k) (ht : t ≤ 3) : G (cp_ h a sp b dp n) := by
  refine ⟨fun q hq => ?_, fun x y => ?_⟩
  · have h1 : ∀ n, n < nN → (sh_ n).1 ≤ 3 → rfA_ (n : Int) = true := by decide +kernel
    have h2 := h1 b.toNat A.2.1 (by rw [A.2.2.1]; exact ht)
    rw [toN_ A.1] at h2
    have h3 := List.all_eq_true.mp h2 q hq
    rw [cp_ne (of_decide_eq_true h3)]
    exact hG.1 q hq
  · unfold cp_
    split
    · exact hG.2 _ _
    · exact hG.2 _ _
theorem wl_upd {ad : AD} {dA : Nat → ClassId} {N : Nat} {h h' : PH} {i : Nat} (hi : i < N) (h9 : i < 199) (hsb : i ≠ iSB) (he : ∀ x : Int, x ≠ (i : Int) → h' x = h x) : (wl_ ad dA N h).set i (ad.2 i, ce_ ad dA (sh_ i) (h' i)) = wl_ ad dA N h' := by
  refine List.ext_getElem? fun j => ?_
  by_cases e : j = i
  · subst e
    rw [List.getElem?_set_self (by have := wl_get (ad := ad) (dA := dA) (h := h) hi h9; exact (List.getElem?_eq_some_iff.mp this).1), wl_get hi h9]
  · rw [List.getElem?_set_ne (fun z => e z.symm)]
    have e2 : h' iSB = h iSB := he _ (fun z => hsb (by exact_mod_cast z.symm))
    unfold wl_
    rw [e2]
    by_cases hl : j < N
    · rw [List.getElem?_append_left (by simpa using hl), List.getElem?_append_left (by simpa using hl), List.getElem?_map, List.getElem?_map, List.getElem?_range hl]
      simp only [Option.map_some]
      rw [he j (fun z => e (by exact_mod_cast z))]
    · rw [List.getElem?_append_right (by simp; omega), List.getElem?_append_right (by simp; omega)]
      simp
theorem cpy_eq {h : PH} {a b sp dp n : Int} (h1 : 0 ≤ sp) (h2 : 0 ≤ dp) (h3 : 0 ≤ n) : va_cpy (fun k : Nat => Int32.ofInt (h a k)) (fun k : Nat => Int32.ofInt (h b k)) sp.toNat dp.toNat n.toNat = fun k : Nat => Int32.ofInt (cp_ h a sp b dp n b k) := by
  funext k
  unfold va_cpy
  by_cases e : dp.toNat ≤ k ∧ k < dp.toNat + n.toNat
  · rw [if_pos e, cp_in (by omega) (by omega)]
    show Int32.ofInt (h a ((sp.toNat + (k - dp.toNat) : Nat) : Int)) = _
    rw [show ((sp.toNat + (k - dp.toNat) : Nat) : Int) = sp + ((k : Int) - dp) by omega]
  · rw [if_neg e, cp_out (by omega)]
section RULESJ
variable {E : EP} {M : PM} {d bc bs : Nat} {Q : PQ} {pc : Nat} {L st : List PV} {h : PH} {idx : Nat}
theorem s_mmax {x y : Int} {N : Nat} (hd : decode M.2.1 pc = .ok (.invokestatic idx, 3)) (j : JM_ M.1 idx Lib.Math.max.name Lib.Math.max.code) (hx : inI x) (hy : inI y) (h1 : 1 ≤ d) (hcat : pcat_ st ≤ 8) (kk : SE_ E M d bc bs Q (pc + 3) L ((0, max x y) :: st) N h) : SE_ E M d bc bs Q pc L ((0, y) :: (0, x) :: st) N h := by
  intro l s0 D dA ad p e R s m args below meth c H locs cells slots mc ms ls hG hC hW hL
  have hf := cx_f hC (bc' := 0) (bs' := 0) ⟨Nat.zero_le _, Nat.zero_le _⟩
  have hlo := cx_lo hC
  refine va_mmax (cx_ex hC) (cx_cb hC) ((cx_ml hC).trans hL.1.symm) (cx_own hC) (cx_ts hC _ j.1) (cx_ts hC _ j.2.1) (cx_ts hC _ j.2.2.1) (cx_ts hC _ j.2.2.2) (Nat.le_trans h1 (cx_fr hC)) (by rw [pcat_eq]; omega) hf.1 hf.2 hd ?_
  have e9 : (if Int32.ofInt x < Int32.ofInt y then Int32.ofInt y else Int32.ofInt x) = Int32.ofInt (max x y) := by
    by_cases q : x < y
    · rw [if_pos ((pI_lt hx hy).mpr q), Int.max_eq_right (by omega)]
    · rw [if_neg (fun z => q ((pI_lt hx hy).mp z)), Int.max_eq_left (by omega)]
  show W p l e R s m args below meth c H locs cells slots _ (F0 m (pc + 3) ls (Value.int (if Int32.ofInt x < Int32.ofInt y then Int32.ofInt y else Int32.ofInt x) :: List.map (rv_ ad) st))
  rw [e9]
  exact kk l s0 D dA ad p e R s m args below meth c H locs cells slots mc ms ls hG hC hW hL
theorem s_mmin {x y : Int} {N : Nat} (hd : decode M.2.1 pc = .ok (.invokestatic idx, 3)) (j : JM_ M.1 idx Lib.Math.min.name Lib.Math.min.code) (hx : inI x) (hy : inI y) (h1 : 1 ≤ d) (hcat : pcat_ st ≤ 8) (kk : SE_ E M d bc bs Q (pc + 3) L ((0, min x y) :: st) N h) : SE_ E M d bc bs Q pc L ((0, y) :: (0, x) :: st) N h := by
  intro l s0 D dA ad p e R s m args below meth c H locs cells slots mc ms ls hG hC hW hL
  have hf := cx_f hC (bc' := 0) (bs' := 0) ⟨Nat.zero_le _, Nat.zero_le _⟩
  have hlo := cx_lo hC
  refine va_mmin (cx_ex hC) (cx_cb hC) ((cx_ml hC).trans hL.1.symm) (cx_own hC) (cx_ts hC _ j.1) (cx_ts hC _ j.2.1) (cx_ts hC _ j.2.2.1) (cx_ts hC _ j.2.2.2) (Nat.le_trans h1 (cx_fr hC)) (by rw [pcat_eq]; omega) hf.1 hf.2 hd ?_
  have e9 : (if Int32.ofInt y < Int32.ofInt x then Int32.ofInt y else Int32.ofInt x) = Int32.ofInt (min x y) := by
    by_cases q : y < x
    · rw [if_pos ((pI_lt hy hx).mpr q), Int.min_eq_right (by omega)]
    · rw [if_neg (fun z => q ((pI_lt hy hx).mp z)), Int.min_eq_left (by omega)]
  show W p l e R s m args below meth c H locs cells slots _ (F0 m (pc + 3) ls (Value.int (if Int32.ofInt y < Int32.ofInt x then Int32.ofInt y else Int32.ofInt x) :: List.map (rv_ ad) st))
  rw [e9]
  exact kk l s0 D dA ad p e R s m args below meth c H locs cells slots mc ms ls hG hC hW hL
theorem fit_b {z : Int} (h0 : -128 ≤ z) (h1 : z < 128) : fits .byte (.int (Int32.ofInt z)) = true := by
  have e := nar_b h0 h1
  rw [vp_nar_byte] at e
  rw [← e]
  exact pk_fb _

theorem s_copyi {a b sp dp n : Int} {n0 n1 : Nat} (hd : decode M.2.1 pc = .ok (.invokestatic idx, 3)) (j : JC_ M.1 idx) (A : isA nN a 0 n0) (B : isA nN b 0 n1) (h1 : 0 ≤ sp) (h2 : 0 ≤ dp) (h3 : 0 ≤ n) (h4 : sp + n ≤ n0) (h5 : dp + n ≤ n1) (hd1 : 1 ≤ d) (hcat : pcat_ st ≤ 8) (hG0 : G h) (kk : G (cp_ h a sp b dp n) → SE_ E M d bc bs Q (pc + 3) L st nN (cp_ h a sp b dp n)) : SE_ E M d bc bs Q pc L ((0, n) :: (0, dp) :: (2, b) :: (0, sp) :: (2, a) :: st) nN h := by
  intro l s0 D dA ad p e R s m args below meth c H locs cells slots mc ms ls hG hC hW hL
  obtain ⟨⟨⟨hP, hD⟩, hb1, hb2, hb3⟩, hS⟩ := id hW
  have q0 := A.2.2.2
  have q1 := B.2.2.2
  have i1 : sp < 2147483648 := by omega
  have i2 : dp < 2147483648 := by omega
  have i3 : n < 2147483648 := by omega
  have neg : ∀ z : Int, 0 ≤ z → z < 2147483648 → ¬ Int32.ofInt z < 0 := fun z z0 z1 q => by
    have := (pI_lt (y := 0) ⟨by omega, z1⟩ inI0).mp q
    omega
  have hlo := cx_lo hC
  refine va_copyi (cx_ex hC) (cx_cb hC) ((cx_ml hC).trans hL.1.symm) (cx_own hC) (cx_ts hC _ j.1) (cx_ts hC _ j.2.1) (cx_ts hC _ j.2.2.1) (cx_ts hC _ j.2.2.2) (Gl_K hG (cx_al hC)) hP hD hS a.toNat b.toNat 0 0 (wl_arr A) (wl_arr B) (ty := .int) rfl rfl rfl (neg sp h1 i1) (neg dp h2 i2) (neg n h3 i3) (by rw [pI_cl h1 i1, pI_cl h3 i3]; omega) (by rw [pI_cl h2 i2, pI_cl h3 i3]; omega) (fun _ _ => rfl) (Nat.le_trans hd1 (cx_fr hC)) ?_ hd ?_
  · rw [pcat_eq]
    have e : nativeFrameWords "java/lang/System" "arraycopy" 5 + 11 ≤ 24 := by decide
    omega
  · intro H1 locs1 hP1 hD1 hS1
    rw [pI_cl h1 i1, pI_cl h2 i2, pI_cl h3 i3, cpy_eq h1 h2 h3] at hP1 hD1
    have e2 := wl_upd (ad := ad) (dA := dA) (h := h) (h' := cp_ h a sp b dp n) B.2.1 (sh_low (by rw [B.2.2.1]; exact Nat.le_of_ble_eq_true rfl)) (isA_ne (by decide) B) (fun x hx => funext fun y => cp_ne (fun z => hx (by rw [z, toN_ B.1])))
    rw [toN_ B.1, B.2.2.1] at e2
    have e3 : (wl_ ad dA nN h).set b.toNat (ad.2 b, .inl (dA 0, n1, .inl (fun k : Nat => Int32.ofInt (cp_ h a sp b dp n b k)))) = wl_ ad dA nN (cp_ h a sp b dp n) := e2
    rw [e3] at hP1 hD1
    exact kk (g_cp hG0 B (by decide)) l s0 D dA ad p e R s m args below meth c H1 locs1 cells slots mc ms ls hG hC (Wd_put (by decide) (cx_sz hC) (cx_ag hC) hP1 hD1 hS1) hL
theorem s_copyb {a b sp dp n : Int} {n0 n1 : Nat} (hd : decode M.2.1 pc = .ok (.invokestatic idx, 3)) (j : JC_ M.1 idx) (A : isA nN a 1 n0) (B : isA nN b 1 n1) (h1 : 0 ≤ sp) (h2 : 0 ≤ dp) (h3 : 0 ≤ n) (h4 : sp + n ≤ n0) (h5 : dp + n ≤ n1) (hby : ∀ i : Int, 0 ≤ i → i < n → -128 ≤ h a (sp + i) ∧ h a (sp + i) < 128) (hd1 : 1 ≤ d) (hcat : pcat_ st ≤ 8) (hG0 : G h) (kk : G (cp_ h a sp b dp n) → SE_ E M d bc bs Q (pc + 3) L st nN (cp_ h a sp b dp n)) : SE_ E M d bc bs Q pc L ((0, n) :: (0, dp) :: (2, b) :: (0, sp) :: (2, a) :: st) nN h := by
  intro l s0 D dA ad p e R s m args below meth c H locs cells slots mc ms ls hG hC hW hL
  obtain ⟨⟨⟨hP, hD⟩, hb1, hb2, hb3⟩, hS⟩ := id hW
  have q0 := A.2.2.2
  have q1 := B.2.2.2
  have i1 : sp < 2147483648 := by omega
  have i2 : dp < 2147483648 := by omega
  have i3 : n < 2147483648 := by omega
  have neg : ∀ z : Int, 0 ≤ z → z < 2147483648 → ¬ Int32.ofInt z < 0 := fun z z0 z1 q => by
    have := (pI_lt (y := 0) ⟨by omega, z1⟩ inI0).mp q
    omega
  have hlo := cx_lo hC
  refine va_copyi (cx_ex hC) (cx_cb hC) ((cx_ml hC).trans hL.1.symm) (cx_own hC) (cx_ts hC _ j.1) (cx_ts hC _ j.2.1) (cx_ts hC _ j.2.2.1) (cx_ts hC _ j.2.2.2) (Gl_K hG (cx_al hC)) hP hD hS a.toNat b.toNat 1 1 (wl_arr A) (wl_arr B) (ty := .byte) rfl rfl rfl (neg sp h1 i1) (neg dp h2 i2) (neg n h3 i3) (by rw [pI_cl h1 i1, pI_cl h3 i3]; omega) (by rw [pI_cl h2 i2, pI_cl h3 i3]; omega) (fun i hi => ?_) (Nat.le_trans hd1 (cx_fr hC)) ?_ hd ?_
  · rw [pI_cl h1 i1]
    rw [pI_cl h3 i3] at hi
    have q := hby i (by omega) (by omega)
    have e5 : ((sp.toNat + i : Nat) : Int) = sp + i := by omega
    show fits .byte (.int (Int32.ofInt (h a ((sp.toNat + i : Nat) : Int)))) = true
    rw [e5]
    exact fit_b q.1 q.2
  · rw [pcat_eq]
    have e : nativeFrameWords "java/lang/System" "arraycopy" 5 + 11 ≤ 24 := by decide
    omega
  · intro H1 locs1 hP1 hD1 hS1
    rw [pI_cl h1 i1, pI_cl h2 i2, pI_cl h3 i3, cpy_eq h1 h2 h3] at hP1 hD1
    have e2 := wl_upd (ad := ad) (dA := dA) (h := h) (h' := cp_ h a sp b dp n) B.2.1 (sh_low (by rw [B.2.2.1]; exact Nat.le_of_ble_eq_true rfl)) (isA_ne (by decide) B) (fun x hx => funext fun y => cp_ne (fun z => hx (by rw [z, toN_ B.1])))
    rw [toN_ B.1, B.2.2.1] at e2
    have e3 : (wl_ ad dA nN h).set b.toNat (ad.2 b, .inl (dA 1, n1, .inl (fun k : Nat => Int32.ofInt (cp_ h a sp b dp n b k)))) = wl_ ad dA nN (cp_ h a sp b dp n) := e2
    rw [e3] at hP1 hD1
    exact kk (g_cp hG0 B (by decide)) l s0 D dA ad p e R s m args below meth c H1 locs1 cells slots mc ms ls hG hC (Wd_put (by decide) (cx_sz hC) (cx_ag hC) hP1 hD1 hS1) hL
end RULESJ
/-- places i .. of a are v -/
def fl_ (h : PH) (a i n v : Int) : PH := fun x y => if x = a ∧ i ≤ y ∧ y < n then v else h x y
theorem fl_0 {h : PH} {a n v : Int} : fl_ h a n n v = h := by
  funext x y
  unfold fl_
  rw [if_neg (by omega)]
theorem fl_s {h : PH} {a i n v : Int} (hi : i < n) : fl_ (hs_ h a i v) a (i + 1) n v = fl_ h a i n v := by
  funext x y
  unfold fl_ hs_
  by_cases e : x = a
  · by_cases e2 : y = i
    · subst e; subst e2
      rw [if_neg (by omega), if_pos rfl, if_pos rfl, if_pos ⟨rfl, by omega, hi⟩]
    · by_cases e3 : i ≤ y ∧ y < n
      · rw [if_pos ⟨e, by omega, e3.2⟩, if_pos ⟨e, e3⟩]
      · rw [if_neg (show ¬ (x = a ∧ i + 1 ≤ y ∧ y < n) by omega), if_pos e, if_neg e2, if_neg (show ¬ (x = a ∧ i ≤ y ∧ y < n) by omega)]
  · rw [if_neg (show ¬ (x = a ∧ i + 1 ≤ y ∧ y < n) from fun q => e q.1), if_neg e, if_neg (show ¬ (x = a ∧ i ≤ y ∧ y < n) from fun q => e q.1)]
/-- Arrays.fill: every place of an int array -/
theorem lp_fill {d bc bs : Nat} {Q : PQ} {a v : Int} {k : Nat} (A : isA nN a 0 k) (hv : inI v) : ∀ (n : Nat) (i : Int) (h : PH), G h → 0 ≤ i → i + n = k → (G (fl_ h a i k v) → Q.1 none nN (fl_ h a i k v)) → S_ MJ7_fill_53178 d bc bs Q 5 [(2, a), (0, v), (0, i), (0, (k : Int))] [] nN h := by
  have hk := A.2.2.2
  intro n
  induction n with
  | zero =>
    intro i h hG h0 h1 q
    have e : i = k := by omega
    subst e
    rw [fl_0] at q
    refine s_iload_n dJ7_fill_53178_5 rfl ?_
    refine s_iload_n dJ7_fill_53178_6 rfl ?_
    refine s_icmp_ge (tgt := 20) dJ7_fill_53178_7 (by decide) ⟨by omega, by omega⟩ ⟨by omega, by omega⟩ (fun _ => ?_) (fun c => by omega)
    exact s_return dJ7_fill_53178_20 rfl (q hG)
  | succ n ih =>
    intro i h hG h0 h1 q
    refine s_iload_n dJ7_fill_53178_5 rfl ?_
    refine s_iload_n dJ7_fill_53178_6 rfl ?_
    refine s_icmp_ge (tgt := 20) dJ7_fill_53178_7 (by decide) ⟨by omega, by omega⟩ ⟨by omega, by omega⟩ (fun c => by omega) (fun _ => ?_)
    refine s_aload_n dJ7_fill_53178_10 rfl ?_
    refine s_iload_n dJ7_fill_53178_11 rfl ?_
    refine s_iload_n dJ7_fill_53178_12 rfl ?_
    refine s_iastoreG dJ7_fill_53178_13 A (by omega) (by omega) hG hv (fun hG1 => ?_)
    refine s_iinc dJ7_fill_53178_14 rfl (by decide) rfl (L' := [_, _, _, _]) rfl ?_
    refine s_goto (tgt := 5) dJ7_fill_53178_17 (by decide) ?_
    refine ih (i + 1) _ hG1 (by omega) (by omega) ?_
    rw [fl_s (by omega)]
    exact q
theorem c_fill {d bc bs : Nat} {Q : PQ} {a v : Int} {k : Nat} {h : PH} (A : isA nN a 0 k) (hv : inI v) (hG : G h) (q : G (fl_ h a 0 k v) → Q.1 none nN (fl_ h a 0 k v)) : Cl_ yJ7_fill_53178 MJ7_fill_53178 d bc bs [(2, a), (0, v)] nN h Q := by
  refine s_enter pn_J7 rfl (Nat.le_of_ble_eq_true rfl) (L := [(2, _), (0, _), (9, 0), (9, 0)]) rfl ?_
  refine s_iconst dJ7_fill_53178_0 ?_
  refine s_istore_n dJ7_fill_53178_1 (by decide) rfl (L' := [_, _, _, _]) rfl ?_
  refine s_aload_n dJ7_fill_53178_2 rfl ?_
  refine s_alen dJ7_fill_53178_3 A (by decide) rfl ?_
  refine s_istore_n dJ7_fill_53178_4 (by decide) rfl (L' := [_, _, _, _]) rfl ?_
  exact lp_fill A hv k 0 h hG (by omega) (by omega) q
