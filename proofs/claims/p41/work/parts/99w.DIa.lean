/-! numbers as the machine holds them; what is drawn; calls where nothing is thrown -/
def w32 (x : Int) : Int := (Int32.ofInt x).toInt
theorem w32_in (x : Int) : inI (w32 x) := ⟨Int32.le_toInt _, Int32.toInt_lt _⟩
theorem or_add {x y : Int} (n : Nat) (hn : n ≤ 31) {a : Nat} (hx : x = ((a * 2 ^ n : Nat) : Int)) (hx1 : x < 2147483648) (hy0 : 0 ≤ y) (hy1 : y.toNat < 2 ^ n) : Int32.ofInt x ||| Int32.ofInt y = Int32.ofInt (x + y) := by
  have h2 : (2 : Nat) ^ n ≤ 2 ^ 31 := Nat.pow_le_pow_right (by decide) hn
  have hy2 : y.toNat < 2147483648 := Nat.lt_of_lt_of_le hy1 h2
  apply Int32.toBitVec_inj.mp
  apply BitVec.eq_of_toNat_eq
  show ((BitVec.ofInt 32 x) ||| (BitVec.ofInt 32 y)).toNat = (BitVec.ofInt 32 (x + y)).toNat
  rw [BitVec.toNat_or, BitVec.toNat_ofInt, BitVec.toNat_ofInt, BitVec.toNat_ofInt]
  have ex : (x % ((2 ^ 32 : Nat) : Int)).toNat = a * 2 ^ n := by
    rw [Int.emod_eq_of_lt (by omega) (by show x < 4294967296; omega), hx, Int.toNat_natCast]
  have ey : (y % ((2 ^ 32 : Nat) : Int)).toNat = y.toNat := by
    rw [Int.emod_eq_of_lt hy0 (by show y < 4294967296; omega)]
  have es : ((x + y) % ((2 ^ 32 : Nat) : Int)).toNat = a * 2 ^ n + y.toNat := by
    rw [Int.emod_eq_of_lt (by omega) (by show x + y < 4294967296; omega)]
    omega
  rw [ex, ey, es, ← Nat.shiftLeft_eq, Nat.shiftLeft_add_eq_or_of_lt hy1]
section DIR
variable {E : EP} {M : PM} {d bc bs : Nat} {Q : PQ} {pc : Nat} {L st : List PV} {N : Nat} {h : PH}
theorem s_w32 {x : Int} (k : SE_ E M d bc bs Q pc L ((0, w32 x) :: st) N h) : SE_ E M d bc bs Q pc L ((0, x) :: st) N h := by
  intro l s0 D dA ad p e R s m args below meth c H locs cells slots mc ms ls hG hC hW hL
  have k9 := k l s0 D dA ad p e R s m args below meth c H locs cells slots mc ms ls hG hC hW hL
  have e9 : rv_ ad (0, w32 x) = .int (Int32.ofInt x) := by
    show Value.int (Int32.ofInt (Int32.ofInt x).toInt) = _
    rw [Int32.ofInt_toInt]
  rw [List.map_cons, e9] at k9
  exact k9
theorem s_iushr16 {x : Int} (hd : decode M.2.1 pc = .ok (.iushr, 1)) (k : SE_ E M d bc bs Q (pc + 1) L ((0, x % 4294967296 / 65536) :: st) N h) : SE_ E M d bc bs Q pc L ((0, 16) :: (0, x) :: st) N h := by
  intro l s0 D dA ad p e R s m args below meth c H locs cells slots mc ms ls hG hC hW hL
  refine lv_iushr (v := Int32.ofInt (x % 4294967296 / 65536)) (cx_ex hC) (cx_cb hC) hd ?_ (k l s0 D dA ad p e R s m args below meth c H locs cells slots mc ms ls hG hC hW hL)
  apply Int32.toBitVec_inj.mp
  apply BitVec.eq_of_toNat_eq
  rw [pk_ushr _ _ 16 (by decide)]
  show (BitVec.ofInt 32 x).toNat / 65536 = (BitVec.ofInt 32 (x % 4294967296 / 65536)).toNat
  rw [BitVec.toNat_ofInt, BitVec.toNat_ofInt]
  show (x % 4294967296).toNat / 65536 = ((x % 4294967296 / 65536) % 4294967296).toNat
  have h1 := Int.emod_nonneg x (b := 4294967296) (by decide)
  have h2 := Int.emod_lt_of_pos x (b := 4294967296) (by decide)
  rw [Int.emod_eq_of_lt (a := x % 4294967296 / 65536) (by omega) (by omega)]
  omega
theorem s_iorA {x y : Int} (n : Nat) (hd : decode M.2.1 pc = .ok (.ior, 1)) (hn : n ≤ 31) {a : Nat} (hx : x = ((a * 2 ^ n : Nat) : Int)) (hx1 : x < 2147483648) (hy0 : 0 ≤ y) (hy1 : y.toNat < 2 ^ n) (k : SE_ E M d bc bs Q (pc + 1) L ((0, x + y) :: st) N h) : SE_ E M d bc bs Q pc L ((0, y) :: (0, x) :: st) N h := by
  intro l s0 D dA ad p e R s m args below meth c H locs cells slots mc ms ls hG hC hW hL
  refine lv_ior (cx_ex hC) (cx_cb hC) hd ?_
  rw [or_add n hn hx hx1 hy0 hy1]
  exact k l s0 D dA ad p e R s m args below meth c H locs cells slots mc ms ls hG hC hW hL
end DIR
/-! the drawn numbers -/
section DIC
variable {d bc bs : Nat} {Q : PQ} {h : PH}
theorem io_M197 : isO nM 197 7 := ⟨by decide, by decide, by decide +kernel⟩
set_option maxRecDepth 100000 in
set_option maxHeartbeats 4000000 in
theorem n_197 {v : Int} (k : Q.1 none 198 (hI_ [(197, [(0, w32 v)])])) : CI_ yX9_init MX9_init 1 0 0 [(2, 197), (0, v)] 198 (hI_ [(197, [])]) Q := by
  refine s_enterJ pn_X9 rfl rfl (Nat.le_of_ble_eq_true rfl) (L := [(2, _), (0, _)]) rfl ?_
  refine s_aload_n dX9_init_0 rfl ?_
  refine s_objI dX9_init_1 ob_X9_1 (by decide) (Nat.le_of_ble_eq_true rfl) ?_
  refine s_aload_n dX9_init_4 rfl ?_
  refine s_iload_n dX9_init_5 rfl ?_
  refine s_w32 ?_
  refine s_putiN 0 dX9_init_6 fl_X9_7 kl_7 (by decide) rfl in1_ rfl ⟨by decide, by decide, (by decide +kernel)⟩ (z := 0) rfl ?_
  rw [hk_put]
  exact s_return dX9_init_9 rfl k
set_option maxRecDepth 100000 in
set_option maxHeartbeats 4000000 in
theorem c_X9_of {n : Int} (n0 : 1 ≤ n) (n1 : n ≤ 1000) (k : ∀ r v : Int, 0 ≤ r → r < n → inI v → Q.1 (some (0, r)) nM (hs_ h 197 0 v)) : Cl_ yX9_of MX9_of d bc bs [(2, 197), (0, n)] nM h Q := by
  refine s_enter pn_X9 rfl (Nat.le_of_ble_eq_true rfl) (L := [(2, _), (0, _)]) rfl ?_
  refine s_aload_n dX9_of_0 rfl ?_
  refine s_ldc dX9_of_1 kc_X9_13 ?_
  refine s_aload_n dX9_of_3 rfl ?_
  refine s_geti (k := 0) dX9_of_4 fl_X9_7 kl_7 (by decide) rfl io_M197 (z := 0) rfl ?_
  refine s_imul dX9_of_7 ?_
  refine s_sipush dX9_of_8 (by decide) ?_
  refine s_iadd dX9_of_11 ?_
  refine s_w32 ?_
  generalize hv : w32 (1103515245 * h 197 0 + 12345) = v
  have vi : inI v := hv ▸ w32_in _
  refine s_puti (k := 0) dX9_of_12 fl_X9_7 kl_7 (by decide) rfl rfl io_M197 (z := 0) rfl ?_
  refine s_aload_n dX9_of_15 rfl ?_
  refine s_geti (k := 0) dX9_of_16 fl_X9_7 kl_7 (by decide) rfl io_M197 (z := 0) rfl ?_
  rw [hs_eq]
  refine s_bipush dX9_of_19 (by decide) ?_
  refine s_iushr16 dX9_of_21 ?_
  refine s_sipush dX9_of_22 (by decide) ?_
  refine s_iand 15 dX9_of_25 (by decide) (by decide) (z := 32768) (by decide) ?_
  refine s_iload_n dX9_of_26 rfl ?_
  have h1 := Int.emod_nonneg (v % 4294967296 / 65536) (b := 32768) (by decide)
  have h2 := Int.emod_lt_of_pos (v % 4294967296 / 65536) (b := 32768) (by decide)
  refine s_irem dX9_of_27 ⟨by omega, by omega⟩ ⟨by omega, by omega⟩ (by omega) (by omega) ?_
  refine s_ireturn dX9_of_28 rfl ?_
  have t := Int.tmod_eq_emod_of_nonneg (b := n) h1
  rw [t]
  exact k _ v (Int.emod_nonneg _ (by omega)) (Int.emod_lt_of_pos _ (by omega)) vi
end DIC
/-! the script -/
def LS_ (b len : Nat) (xs : Nat → Int32) (s0 : State) (a2 : Int → Nat) : Prop := Gi_ s0 ∧ va_X b len xs s0 s0.heap ∧ b < s0.heap.size ∧ a2 1399 = b
abbrev EL_ (b len : Nat) (xs : Nat → Int32) : EP := fun s0 a2 _ _ => LS_ b len xs s0 a2
theorem eg_L {b len : Nat} {xs : Nat → Int32} : ∀ s0 a2 meth c, EL_ b len xs s0 a2 meth c → Gi_ s0 := fun _ _ _ _ h => h.1
def xz_ (xs : Nat → Int32) (i : Int) : Int := (xs i.toNat).toInt
/-- a method that is called with the script -/
def CLS_ (b len : Nat) (xs : Nat → Int32) (y : MethodName) (M : PM) (d bc bs : Nat) (as : List PV) (N : Nat) (h : PH) (Q : PQ) : Prop :=
  ∀ (l : Launch) (s0 : State) (D : va_G) (dA : Nat → ClassId) (ad : AD), Gl_ l s0 D dA ad.2 → LS_ b len xs s0 ad.2 →
    vx_Met l y (.code y M.2.1 M.2.2.1 M.2.2.2 :: TBL) { frames := d, locals := 37 * d, cells := bc, slots := bs } (va_Pc (as.map (rv_ ad)) (fun U => s0.WarmedH U.vm ∧ Wd_ s0 D dA ad N h U.heap)) (Qc_ s0 D dA ad Q.1) (XC_ s0 D dA ad Q.2) bc bs (own_ s0)
section SCR
variable {E : EP} {M M' : PM} {d d' bc bs bc' bs' n idx : Nat} {Q : PQ} {pc : Nat} {L st stk as : List PV} {N : Nat} {h : PH} {y : MethodName} {b len : Nat} {xs : Nat → Int32}
theorem s_enterL (hp : plainName y.cls = true) (hc : y.cls = M.1) (hn : (en_ as).length ≤ M.2.2.1) (hL : en_ as ++ List.replicate (M.2.2.1 - (en_ as).length) (9, 0) = L)
    (k : SE_ (EL_ b len xs) M d bc bs Q 0 L [] N h) : CLS_ b len xs y M d bc bs as N h Q := by
  intro l s0 D dA ad hG hLS
  refine vx_ofW hp rfl ?_
  intro p e s m args below meth c s₁ B hml hex hpc
  exact s_body hc hn hL k hG B hml hLS hpc
theorem scr_at {l : Launch} {s0 s : State} {D : va_G} {dA : Nat → ClassId} {ad : AD} {p : Program} {R : Room} {m : MethodId} {args : Array Value} {meth : Method} {c : Code} {cells slots mc ms : Nat} (hC : Cx_ (EL_ b len xs) ad.2 M d bc bs s0 p R s m args meth c cells slots mc ms) : va_X b len xs s s.heap ∧ b < s.heap.size ∧ ¬ own_ s0 b ∧ ad.2 1399 = b := by
  obtain ⟨-, x1, x2, x3⟩ := cx_e hC
  exact ⟨(x1.kept (cx_ag hC b x2)).moved (cx_al hC), Nat.lt_of_lt_of_le x2 (cx_sz hC), Nat.not_le.mpr x2, x3⟩
theorem s_slen (hd : decode M.2.1 pc = .ok (.arraylength, 1)) (k : SE_ (EL_ b len xs) M d bc bs Q (pc + 1) L ((0, (len : Int)) :: st) N h) : SE_ (EL_ b len xs) M d bc bs Q pc L ((2, 1399) :: st) N h := by
  intro l s0 D dA ad p e R s m args below meth c H locs cells slots mc ms ls hG hC hW hL
  obtain ⟨x1, x2, x3, x4⟩ := scr_at (l := l) (D := D) (dA := dA) hC
  show W p l e R s m args below meth c H locs cells slots _ (F0 m pc ls (Value.ref (ad.2 1399) :: st.map (rv_ ad)))
  rw [x4]
  refine va_slen (cx_ex hC) (cx_cb hC) x1 x2 x3 hW.2 hd ?_
  exact k l s0 D dA ad p e R s m args below meth c H locs cells slots mc ms ls hG hC hW hL
theorem s_sld {i : Int} (hd : decode M.2.1 pc = .ok (.iaload, 1)) (h0 : 0 ≤ i) (h1 : i < len) (hl : len ≤ 3072) (k : SE_ (EL_ b len xs) M d bc bs Q (pc + 1) L ((0, xz_ xs i) :: st) N h) : SE_ (EL_ b len xs) M d bc bs Q pc L ((0, i) :: (2, 1399) :: st) N h := by
  intro l s0 D dA ad p e R s m args below meth c H locs cells slots mc ms ls hG hC hW hL
  obtain ⟨x1, x2, x3, x4⟩ := scr_at (l := l) (D := D) (dA := dA) hC
  show W p l e R s m args below meth c H locs cells slots _ (F0 m pc ls (Value.int (Int32.ofInt i) :: Value.ref (ad.2 1399) :: st.map (rv_ ad)))
  rw [x4]
  refine va_sld (cx_ex hC) (cx_cb hC) x1 x2 x3 hW.2 (pI_in h0 h1 (by omega)) hd ?_
  rw [pI_cl h0 (by omega)]
  have k9 := k l s0 D dA ad p e R s m args below meth c H locs cells slots mc ms ls hG hC hW hL
  have e9 : rv_ ad (0, xz_ xs i) = .int (xs i.toNat) := by
    show Value.int (Int32.ofInt (xs i.toNat).toInt) = _
    rw [Int32.ofInt_toInt]
  rw [List.map_cons, e9] at k9
  exact k9
/-- behind a call that throws nothing -/
theorem s_back0 {l : Launch} {s0 : State} {D : va_G} {dA : Nat → ClassId} {ad : AD} {p : Program} {e : Env} {R : Room} {s : State} {m : MethodId} {args a' : Array Value} {below : List Frame} {meth : Method} {c : Code} {H : Heap} {locs : List Loc} {cells slots mc ms : Nat} {ls : Array Slot} {st0 : List Value} {P : Option PV → Nat → PH → Prop}
    (hr : vx_Run p l e R s m args below meth c H locs cells slots bc' bs' (F0 m pc ls st0) (st.map (rv_ ad)) (Qc_ s0 D dA ad P a') (XC_ s0 D dA ad (fun _ _ _ => False)) (own_ s0)) (hG : Gl_ l s0 D dA ad.2) (hC : Cx_ E ad.2 M d bc bs s0 p R s m args meth c cells slots mc ms) (hS : va_S (own_ s0) s.heap H locs) (hL : lv_has ls M.2.2.1 (as_ ad 0 L)) (hb : bc' ≤ bc ∧ bs' ≤ bs) (h5 : nk5_ L = true) (h6 : nk5_ st = true)
    (kk : ∀ r N' h', P r N' h' → SE_ E M d (bc - bc') (bs - bs') Q (pc + 3) L (r.toList ++ st) N' h') :
    W p l e R s m args below meth c H locs cells slots (vx_MQ below (Qc_ s0 D dA ad Q.1) (XC_ s0 D dA ad Q.2) args s mc ms (own_ s0)) (F0 m pc ls st0) :=
  s_backE hr hG hC hS hL hb h5 h6 kk (fun _ _ _ _ _ _ _ _ _ hp => hp.elim)
abbrev QE_ (E : EP) (M : PM) (d bc bs bc' bs' : Nat) (Q : PQ) (pc : Nat) (L st : List PV) : PQ := (fun r N' h' => SE_ E M d (bc - bc') (bs - bs') Q (pc + 3) L (r.toList ++ st) N' h', fun _ _ _ => False)
theorem e0_callV {a : Int} {ci : Nat} (hd : decode M.2.1 pc = .ok (.invokevirtual idx, 3)) (vf : VF_ M.1 idx y M' n) (hdd : d' + 1 ≤ d ∧ 8 + (M'.2.2.1 + 11) + 37 * d' ≤ 37 * d) (hb : bc' ≤ bc ∧ bs' ≤ bs) (hn : as.length = n) (hst : stk = as.reverse ++ (2, a) :: st) (hcat : pcat_ st ≤ 8) (kl : Kl_ ci) (hy : uC_ ci = y.cls) (A : isO N a ci)
    (C : Cl_ y M' d' bc' bs' ((2, a) :: as) N h (QE_ E M d bc bs bc' bs' Q pc L st)) (h5 : nk5_ L = true := by rfl) (h6 : nk5_ st = true := by rfl) : SE_ E M d bc bs Q pc L stk N h := by
  intro l s0 D dA ad p e R s m args below meth c H locs cells slots mc ms ls hG hC hW hL
  exact s_back0 (s_runV hG hC hW hL hd vf hdd hb hn hst hcat kl hy A C) hG hC hW.2 hL hb h5 h6 (fun _ _ _ z => z)
theorem e0_callS (hd : decode M.2.1 pc = .ok (.invokestatic idx, 3)) (sf : SF_ M.1 idx y M' n) (hdd : d' + 1 ≤ d ∧ 8 + (M'.2.2.1 + 11) + 37 * d' ≤ 37 * d) (hb : bc' ≤ bc ∧ bs' ≤ bs) (hn : as.length = n) (hst : stk = as.reverse ++ st) (hcat : pcat_ st ≤ 8)
    (C : Cl_ y M' d' bc' bs' as N h (QE_ E M d bc bs bc' bs' Q pc L st)) (h5 : nk5_ L = true := by rfl) (h6 : nk5_ st = true := by rfl) : SE_ E M d bc bs Q pc L stk N h := by
  intro l s0 D dA ad p e R s m args below meth c H locs cells slots mc ms ls hG hC hW hL
  have hr := vx_runS (As := as.map (rv_ ad)) (rest := st.map (rv_ ad)) (g := F0 m pc ls (stk.map (rv_ ad))) (H := H) (locs := locs) (below := below) (meth := meth) (cells := cells) (slots := slots) (e := e) ⟨cx_ex hC, cx_cb hC, cx_ml hC, cx_own hC, cx_ts hC⟩ (C l s0 D dA ad hG) ⟨cf_cb hC sf.1 sf.2.1 hdd, cx_ts hC _ sf.2.2⟩
    ⟨pc_bl, fun U hU hW' => ⟨rfl, cx_in hC hW', by rw [hU]; exact hW.1⟩⟩ rfl (by rw [List.length_map]; exact hn) hL.1 (by subst hst; simp) (lv_room (by rw [pcat_eq]; exact hcat)) hd (cx_f hC hb)
  exact s_back0 hr hG hC hW.2 hL hb h5 h6 (fun _ _ _ z => z)
theorem eL_callS (hd : decode M.2.1 pc = .ok (.invokestatic idx, 3)) (sf : SF_ M.1 idx y M' n) (hdd : d' + 1 ≤ d ∧ 8 + (M'.2.2.1 + 11) + 37 * d' ≤ 37 * d) (hb : bc' ≤ bc ∧ bs' ≤ bs) (hn : as.length = n) (hst : stk = as.reverse ++ st) (hcat : pcat_ st ≤ 8)
    (C : CLS_ b len xs y M' d' bc' bs' as N h (QE_ (EL_ b len xs) M d bc bs bc' bs' Q pc L st)) (h5 : nk5_ L = true := by rfl) (h6 : nk5_ st = true := by rfl) : SE_ (EL_ b len xs) M d bc bs Q pc L stk N h := by
  intro l s0 D dA ad p e R s m args below meth c H locs cells slots mc ms ls hG hC hW hL
  have hr := vx_runS (As := as.map (rv_ ad)) (rest := st.map (rv_ ad)) (g := F0 m pc ls (stk.map (rv_ ad))) (H := H) (locs := locs) (below := below) (meth := meth) (cells := cells) (slots := slots) (e := e) ⟨cx_ex hC, cx_cb hC, cx_ml hC, cx_own hC, cx_ts hC⟩ (C l s0 D dA ad hG (cx_e hC)) ⟨cf_cb hC sf.1 sf.2.1 hdd, cx_ts hC _ sf.2.2⟩
    ⟨pc_bl, fun U hU hW' => ⟨rfl, cx_in hC hW', by rw [hU]; exact hW.1⟩⟩ rfl (by rw [List.length_map]; exact hn) hL.1 (by subst hst; simp) (lv_room (by rw [pcat_eq]; exact hcat)) hd (cx_f hC hb)
  exact s_back0 hr hG hC hW.2 hL hb h5 h6 (fun _ _ _ z => z)
theorem e0_callI {a : Int} (hEG : ∀ s0 a2 meth c, E s0 a2 meth c → Gi_ s0) (hd : decode M.2.1 pc = .ok (.invokespecial idx, 3)) (vf : IF_ M.1 idx y M' n) (hdd : d' + 1 ≤ d ∧ 8 + (M'.2.2.1 + 11) + 37 * d' ≤ 37 * d) (hb : bc' ≤ bc ∧ bs' ≤ bs) (hn : as.length = n) (hst : stk = as.reverse ++ (2, a) :: st) (hcat : pcat_ st ≤ 8)
    (C : CI_ y M' d' bc' bs' ((2, a) :: as) N h (QE_ E M d bc bs bc' bs' Q pc L st)) (h5 : nk5_ L = true := by rfl) (h6 : nk5_ st = true := by rfl) : SE_ E M d bc bs Q pc L stk N h := by
  intro l s0 D dA ad p e R s m args below meth c H locs cells slots mc ms ls hG hC hW hL
  have cb := cf_cb (bc' := bc') (bs' := bs') hC vf.1 vf.2.1 hdd
  rw [vf.2.2.2.2] at cb
  have C9 := C l s0 D dA ad hG (hEG _ _ _ _ (cx_e hC))
  rw [vf.2.2.2.2] at C9
  have hr := vx_runI (As := as.map (rv_ ad)) (rest := st.map (rv_ ad)) (b := ad.2 a) (g := F0 m pc ls (stk.map (rv_ ad))) (H := H) (locs := locs) (below := below) (meth := meth) (cells := cells) (slots := slots) (e := e) ⟨cx_ex hC, cx_cb hC, cx_ml hC, cx_own hC, cx_ts hC⟩ C9 ⟨cb, vf.2.2.2.1, cx_ts hC _ vf.2.2.1⟩
    ⟨pc_bl, fun U hU hW' => ⟨rfl, cx_in hC hW', by rw [hU]; exact hW.1⟩⟩ rfl (by rw [List.length_map]; exact hn) hL.1 (by subst hst; simp [rv_]) (lv_room (by rw [pcat_eq]; exact hcat)) hd (cx_f hC hb)
  exact s_back0 hr hG hC hW.2 hL hb h5 h6 (fun _ _ _ z => z)
theorem e0_call6 {q n9 : Nat} {f : Int → Int} (hd : decode M.2.1 pc = .ok (.invokevirtual idx, 3)) (vf : VF_ M.1 idx y M' n) (hy : y.cls = RJ0) (hdd : d' + 1 ≤ d ∧ 8 + (M'.2.2.1 + 11) + 37 * d' ≤ 37 * d) (hb : bc' ≤ bc ∧ bs' ≤ bs) (hn : as.length = n) (hst : stk = as.reverse ++ (6, (q : Int)) :: st) (hcat : pcat_ st ≤ 8) (hN : 199 < N) (T : ST_ h q n9 f)
    (C : Cl_ y M' d' bc' bs' ((6, (q : Int)) :: as) N h (QE_ E M d bc bs bc' bs' Q pc L st)) (h5 : nk5_ L = true := by rfl) (h6 : nk5_ st = true := by rfl) : SE_ E M d bc bs Q pc L stk N h := by
  intro l s0 D dA ad p e R s m args below meth c H locs cells slots mc ms ls hG hC hW hL
  have hr := vx_runV (As := as.map (rv_ ad)) (rest := st.map (rv_ ad)) (b := q) (C := y.cls) (g := F0 m pc ls (stk.map (rv_ ad))) (H := H) (locs := locs) (below := below) (meth := meth) (cells := cells) (slots := slots) (e := e) ⟨cx_ex hC, cx_cb hC, cx_ml hC, cx_own hC, cx_ts hC⟩ (C l s0 D dA ad hG) ⟨cf_cb hC vf.1 vf.2.1 hdd, cx_ts hC _ vf.2.2.1, cx_ts hC _ vf.2.2.2⟩
    ⟨pc_bl, by rw [hy]; exact va_recv (Gl_K hG (cx_al hC)) hW.1.1.1 (ci := 10) (q := (RJ0, TJ0, 4)) rfl (wl_str hN T), fun U hU hW' => ⟨rfl, cx_in hC hW', by rw [hU]; exact hW.1⟩⟩ rfl (by rw [List.length_map]; exact hn) hL.1 (by subst hst; simp [rv_]) (lv_room (by rw [pcat_eq]; exact hcat)) hd (cx_f hC hb)
  exact s_back0 hr hG hC hW.2 hL hb h5 h6 (fun _ _ _ z => z)
set_option maxRecDepth 100000 in
set_option maxHeartbeats 4000000 in
/-- draw(s, k) -/
theorem c_L_draw {i : Int} (hl : len ≤ 3072) (i0 : 0 ≤ i) (i1 : i < 4000) (k : ∀ r : Int, Q.1 (some (0, r)) N h) : CLS_ b len xs yL_draw ML_draw d bc bs [(2, 1399), (0, i)] N h Q := by
  refine s_enterL pn_L rfl (Nat.le_of_ble_eq_true rfl) (L := [(2, _), (0, _)]) rfl ?_
  refine s_iload_n dL_draw_0 rfl ?_
  refine s_aload_n dL_draw_1 rfl ?_
  refine s_slen dL_draw_2 ?_
  refine s_icmp_ge (tgt := 15) dL_draw_3 (by decide) ⟨by omega, by omega⟩ ⟨by omega, by omega⟩ (fun c1 => ?_) (fun c1 => ?_)
  · refine s_iconst dL_draw_15 ?_
    exact s_ireturn dL_draw_16 rfl (k _)
  · refine s_aload_n dL_draw_6 rfl ?_
    refine s_iload_n dL_draw_7 rfl ?_
    refine s_sld dL_draw_8 i0 (by omega) hl ?_
    refine s_ldc dL_draw_9 kc_L_7 ?_
    refine s_iand 31 dL_draw_11 (by decide) (by decide) (z := 2147483648) (by decide) ?_
    refine s_goto (tgt := 16) dL_draw_12 (by decide) ?_
    exact s_ireturn dL_draw_16 rfl (k _)
end SCR
