/-! longs, shifts, quotients, switches, the length of an array -/
theorem pL_lt {x y : Int} (hx : inL x) (hy : inL y) : Int64.ofInt x < Int64.ofInt y ↔ x < y := by
  rw [Int64.lt_iff_toInt_lt, inL_to hx, inL_to hy]
theorem pL_le {x y : Int} (hx : inL x) (hy : inL y) : Int64.ofInt x ≤ Int64.ofInt y ↔ x ≤ y := by
  rw [Int64.le_iff_toInt_le, inL_to hx, inL_to hy]
theorem pL_eq {x y : Int} (hx : inL x) (hy : inL y) : Int64.ofInt x = Int64.ofInt y ↔ x = y := by
  rw [← Int64.toInt_inj, inL_to hx, inL_to hy]
theorem inI_L {x : Int} (h : inI x) : inL x := ⟨by have := h.1; omega, by have := h.2; omega⟩
theorem inL0 : inL 0 := ⟨by decide, by decide⟩
theorem tdiv_abs (x y : Int) : (x.tdiv y).natAbs ≤ x.natAbs := by
  rw [Int.natAbs_tdiv]
  exact Nat.div_le_self _ _
theorem tdiv_inI {x y : Int} (hx : inI x) (h : ¬ x = -2147483648) : inI (x.tdiv y) := by
  have h1 := tdiv_abs x y
  have h2 := hx.1
  have h3 := hx.2
  exact ⟨by omega, by omega⟩
theorem tmod_inI {x y : Int} (hx : inI x) : inI (x.tmod y) := by
  have h1 : (x.tmod y).natAbs ≤ x.natAbs := by
    rw [Int.natAbs_tmod]
    exact Nat.mod_le _ _
  have h2 := hx.1
  have h3 := hx.2
  rcases Int.le_total 0 x with h4 | h4
  · have := Int.tmod_nonneg y h4
    exact ⟨by omega, by omega⟩
  · exact ⟨by omega, by have := Int.tmod_nonneg y (a := -x) (by omega); rw [Int.neg_tmod] at this; omega⟩
theorem tdiv_inL {x y : Int} (hx : inL x) (h : 0 ≤ x) : inL (x.tdiv y) := by
  have h1 := tdiv_abs x y
  have h2 := hx.1
  have h3 := hx.2
  exact ⟨by omega, by omega⟩
section RULES4
variable {E : EP} {M : PM} {d bc bs : Nat} {Q : PQ} {pc : Nat} {L st : List PV} {N : Nat} {h : PH}
theorem s_lcmp_lt {x y : Int} {off : Int} {tgt : Nat} (hd : decode M.2.1 pc = .ok (.lcmp, 1)) (hd2 : decode M.2.1 (pc + 1) = .ok (.ifCond .lt off, 3)) (ht : ((pc + 1 : Nat) : Int) + off = (tgt : Int)) (hx : inL x) (hy : inL y) (kt : x < y → SE_ E M d bc bs Q tgt L st N h) (kf : y ≤ x → SE_ E M d bc bs Q (pc + 1 + 3) L st N h) : SE_ E M d bc bs Q pc L ((1, y) :: (1, x) :: st) N h :=
  fun l s0 D dA ad p e R s m args below meth c H locs cells slots mc ms ls hG hC hW hL => W.lcmp (cx_ex hC) (cx_cb hC) hd (lv_if_lt (cx_ex hC) (cx_cb hC) hd2 ht (fun a => kt ((pL_lt hx hy).mp ((lg_cmp_lt _ _).mp a)) l s0 D dA ad p e R s m args below meth c H locs cells slots mc ms ls hG hC hW hL) (fun a => kf (Int.not_lt.mp (fun z => a ((lg_cmp_lt _ _).mpr ((pL_lt hx hy).mpr z)))) l s0 D dA ad p e R s m args below meth c H locs cells slots mc ms ls hG hC hW hL))
theorem s_lcmp_ge {x y : Int} {off : Int} {tgt : Nat} (hd : decode M.2.1 pc = .ok (.lcmp, 1)) (hd2 : decode M.2.1 (pc + 1) = .ok (.ifCond .ge off, 3)) (ht : ((pc + 1 : Nat) : Int) + off = (tgt : Int)) (hx : inL x) (hy : inL y) (kt : y ≤ x → SE_ E M d bc bs Q tgt L st N h) (kf : x < y → SE_ E M d bc bs Q (pc + 1 + 3) L st N h) : SE_ E M d bc bs Q pc L ((1, y) :: (1, x) :: st) N h :=
  fun l s0 D dA ad p e R s m args below meth c H locs cells slots mc ms ls hG hC hW hL => W.lcmp (cx_ex hC) (cx_cb hC) hd (lv_if_ge (cx_ex hC) (cx_cb hC) hd2 ht (fun a => kt ((pL_le hy hx).mp ((lg_cmp_ge _ _).mp a)) l s0 D dA ad p e R s m args below meth c H locs cells slots mc ms ls hG hC hW hL) (fun a => kf (Int.not_le.mp (fun z => a ((lg_cmp_ge _ _).mpr ((pL_le hy hx).mpr z)))) l s0 D dA ad p e R s m args below meth c H locs cells slots mc ms ls hG hC hW hL))
theorem s_lcmp_gt {x y : Int} {off : Int} {tgt : Nat} (hd : decode M.2.1 pc = .ok (.lcmp, 1)) (hd2 : decode M.2.1 (pc + 1) = .ok (.ifCond .gt off, 3)) (ht : ((pc + 1 : Nat) : Int) + off = (tgt : Int)) (hx : inL x) (hy : inL y) (kt : y < x → SE_ E M d bc bs Q tgt L st N h) (kf : x ≤ y → SE_ E M d bc bs Q (pc + 1 + 3) L st N h) : SE_ E M d bc bs Q pc L ((1, y) :: (1, x) :: st) N h :=
  fun l s0 D dA ad p e R s m args below meth c H locs cells slots mc ms ls hG hC hW hL => W.lcmp (cx_ex hC) (cx_cb hC) hd (lv_if_gt (cx_ex hC) (cx_cb hC) hd2 ht (fun a => kt ((pL_lt hy hx).mp ((lg_cmp_gt _ _).mp a)) l s0 D dA ad p e R s m args below meth c H locs cells slots mc ms ls hG hC hW hL) (fun a => kf (Int.not_lt.mp (fun z => a ((lg_cmp_gt _ _).mpr ((pL_lt hy hx).mpr z)))) l s0 D dA ad p e R s m args below meth c H locs cells slots mc ms ls hG hC hW hL))
theorem s_lcmp_le {x y : Int} {off : Int} {tgt : Nat} (hd : decode M.2.1 pc = .ok (.lcmp, 1)) (hd2 : decode M.2.1 (pc + 1) = .ok (.ifCond .le off, 3)) (ht : ((pc + 1 : Nat) : Int) + off = (tgt : Int)) (hx : inL x) (hy : inL y) (kt : x ≤ y → SE_ E M d bc bs Q tgt L st N h) (kf : y < x → SE_ E M d bc bs Q (pc + 1 + 3) L st N h) : SE_ E M d bc bs Q pc L ((1, y) :: (1, x) :: st) N h :=
  fun l s0 D dA ad p e R s m args below meth c H locs cells slots mc ms ls hG hC hW hL => W.lcmp (cx_ex hC) (cx_cb hC) hd (lv_if_le (cx_ex hC) (cx_cb hC) hd2 ht (fun a => kt ((pL_le hx hy).mp ((lg_cmp_le _ _).mp a)) l s0 D dA ad p e R s m args below meth c H locs cells slots mc ms ls hG hC hW hL) (fun a => kf (Int.not_le.mp (fun z => a ((lg_cmp_le _ _).mpr ((pL_le hx hy).mpr z)))) l s0 D dA ad p e R s m args below meth c H locs cells slots mc ms ls hG hC hW hL))
theorem s_lcmp_eq {x y : Int} {off : Int} {tgt : Nat} (hd : decode M.2.1 pc = .ok (.lcmp, 1)) (hd2 : decode M.2.1 (pc + 1) = .ok (.ifCond .eq off, 3)) (ht : ((pc + 1 : Nat) : Int) + off = (tgt : Int)) (hx : inL x) (hy : inL y) (kt : x = y → SE_ E M d bc bs Q tgt L st N h) (kf : ¬ x = y → SE_ E M d bc bs Q (pc + 1 + 3) L st N h) : SE_ E M d bc bs Q pc L ((1, y) :: (1, x) :: st) N h :=
  fun l s0 D dA ad p e R s m args below meth c H locs cells slots mc ms ls hG hC hW hL => W.lcmp (cx_ex hC) (cx_cb hC) hd (lv_if_eq (cx_ex hC) (cx_cb hC) hd2 ht (fun a => kt ((pL_eq hx hy).mp ((lg_cmp_eq _ _).mp a)) l s0 D dA ad p e R s m args below meth c H locs cells slots mc ms ls hG hC hW hL) (fun a => kf (fun z => a ((lg_cmp_eq _ _).mpr ((pL_eq hx hy).mpr z))) l s0 D dA ad p e R s m args below meth c H locs cells slots mc ms ls hG hC hW hL))
theorem s_lcmp_ne {x y : Int} {off : Int} {tgt : Nat} (hd : decode M.2.1 pc = .ok (.lcmp, 1)) (hd2 : decode M.2.1 (pc + 1) = .ok (.ifCond .ne off, 3)) (ht : ((pc + 1 : Nat) : Int) + off = (tgt : Int)) (hx : inL x) (hy : inL y) (kt : ¬ x = y → SE_ E M d bc bs Q tgt L st N h) (kf : x = y → SE_ E M d bc bs Q (pc + 1 + 3) L st N h) : SE_ E M d bc bs Q pc L ((1, y) :: (1, x) :: st) N h :=
  fun l s0 D dA ad p e R s m args below meth c H locs cells slots mc ms ls hG hC hW hL => W.lcmp (cx_ex hC) (cx_cb hC) hd (lv_if_ne (cx_ex hC) (cx_cb hC) hd2 ht (fun a => kt (fun z => a ((lg_cmp_eq _ _).mpr ((pL_eq hx hy).mpr z))) l s0 D dA ad p e R s m args below meth c H locs cells slots mc ms ls hG hC hW hL) (fun a => kf ((pL_eq hx hy).mp ((lg_cmp_eq _ _).mp a)) l s0 D dA ad p e R s m args below meth c H locs cells slots mc ms ls hG hC hW hL))
theorem s_i2l {x : Int} (hd : decode M.2.1 pc = .ok (.i2l, 1)) (hx : inI x) (k : SE_ E M d bc bs Q (pc + 1) L ((1, x) :: st) N h) : SE_ E M d bc bs Q pc L ((0, x) :: st) N h := by
  intro l s0 D dA ad p e R s m args below meth c H locs cells slots mc ms ls hG hC hW hL
  refine lv_i2l (cx_ex hC) (cx_cb hC) hd (v := Int64.ofInt x) ?_ (k l s0 D dA ad p e R s m args below meth c H locs cells slots mc ms ls hG hC hW hL)
  show (Int32.ofInt x).toInt64 = _
  rw [← Int64.toInt_inj, Int32.toInt_toInt64, inI_to hx, inL_to (inI_L hx)]
theorem s_l2i {x : Int} (hd : decode M.2.1 pc = .ok (.l2i, 1)) (k : SE_ E M d bc bs Q (pc + 1) L ((0, x) :: st) N h) : SE_ E M d bc bs Q pc L ((1, x) :: st) N h := by
  intro l s0 D dA ad p e R s m args below meth c H locs cells slots mc ms ls hG hC hW hL
  exact lv_l2i (cx_ex hC) (cx_cb hC) hd (v := Int32.ofInt x) Int64.toInt32_ofInt (k l s0 D dA ad p e R s m args below meth c H locs cells slots mc ms ls hG hC hW hL)
theorem s_i2b {x : Int} (hd : decode M.2.1 pc = .ok (.i2b, 1)) (k : SE_ E M d bc bs Q (pc + 1) L ((0, Int.bmod x 256) :: st) N h) : SE_ E M d bc bs Q pc L ((0, x) :: st) N h := by
  intro l s0 D dA ad p e R s m args below meth c H locs cells slots mc ms ls hG hC hW hL
  refine lv_i2b (cx_ex hC) (cx_cb hC) hd (v := Int32.ofInt (Int.bmod x 256)) ?_ (k l s0 D dA ad p e R s m args below meth c H locs cells slots mc ms ls hG hC hW hL)
  show (Int32.ofInt x).toInt8.toInt32 = _
  rw [Int32.toInt8_ofInt, ← Int32.toInt_inj, Int8.toInt_toInt32, Int8.toInt_ofInt, inI_to]
  · have h1 := Int.le_bmod (x := x) (m := 256) (by decide)
    have h2 := Int.bmod_lt (x := x) (m := 256) (by decide)
    exact ⟨by omega, by omega⟩
theorem s_ladd {x y : Int} (hd : decode M.2.1 pc = .ok (.ladd, 1)) (k : SE_ E M d bc bs Q (pc + 1) L ((1, x + y) :: st) N h) : SE_ E M d bc bs Q pc L ((1, y) :: (1, x) :: st) N h := by
  intro l s0 D dA ad p e R s m args below meth c H locs cells slots mc ms ls hG hC hW hL
  refine lv_ladd (cx_ex hC) (cx_cb hC) hd ?_
  rw [← Int64.ofInt_add]
  exact k l s0 D dA ad p e R s m args below meth c H locs cells slots mc ms ls hG hC hW hL
theorem s_lsub {x y : Int} (hd : decode M.2.1 pc = .ok (.lsub, 1)) (k : SE_ E M d bc bs Q (pc + 1) L ((1, x - y) :: st) N h) : SE_ E M d bc bs Q pc L ((1, y) :: (1, x) :: st) N h := by
  intro l s0 D dA ad p e R s m args below meth c H locs cells slots mc ms ls hG hC hW hL
  refine lv_lsub (cx_ex hC) (cx_cb hC) hd ?_
  rw [← Int64.ofInt_sub]
  exact k l s0 D dA ad p e R s m args below meth c H locs cells slots mc ms ls hG hC hW hL
theorem s_lmul {x y : Int} (hd : decode M.2.1 pc = .ok (.lmul, 1)) (k : SE_ E M d bc bs Q (pc + 1) L ((1, x * y) :: st) N h) : SE_ E M d bc bs Q pc L ((1, y) :: (1, x) :: st) N h := by
  intro l s0 D dA ad p e R s m args below meth c H locs cells slots mc ms ls hG hC hW hL
  refine lv_lmul (cx_ex hC) (cx_cb hC) hd ?_
  rw [← Int64.ofInt_mul]
  exact k l s0 D dA ad p e R s m args below meth c H locs cells slots mc ms ls hG hC hW hL
theorem s_idiv {x y : Int} (hd : decode M.2.1 pc = .ok (.idiv, 1)) (hx : inI x) (hy : inI y) (h0 : ¬ y = 0) (h1 : ¬ x = -2147483648) (k : SE_ E M d bc bs Q (pc + 1) L ((0, x.tdiv y) :: st) N h) : SE_ E M d bc bs Q pc L ((0, y) :: (0, x) :: st) N h := by
  intro l s0 D dA ad p e R s m args below meth c H locs cells slots mc ms ls hG hC hW hL
  refine lv_idiv (cx_ex hC) (cx_cb hC) hd (fun z => h0 ((pI_eq hy inI0).mp z)) ?_
  have e9 : Int32.ofInt x / Int32.ofInt y = Int32.ofInt (x.tdiv y) := by
    rw [← Int32.toInt_inj, Int32.toInt_div_of_ne_left _ _ (fun z => h1 ((pI_eq (y := -2147483648) hx ⟨by decide, by decide⟩).mp z)), inI_to hx, inI_to hy, inI_to (tdiv_inI hx h1)]
  rw [e9]
  exact k l s0 D dA ad p e R s m args below meth c H locs cells slots mc ms ls hG hC hW hL
theorem s_irem {x y : Int} (hd : decode M.2.1 pc = .ok (.irem, 1)) (hx : inI x) (hy : inI y) (h0 : ¬ y = 0) (h1 : ¬ x = -2147483648) (k : SE_ E M d bc bs Q (pc + 1) L ((0, x.tmod y) :: st) N h) : SE_ E M d bc bs Q pc L ((0, y) :: (0, x) :: st) N h := by
  intro l s0 D dA ad p e R s m args below meth c H locs cells slots mc ms ls hG hC hW hL
  refine lv_irem (cx_ex hC) (cx_cb hC) hd (fun z => h0 ((pI_eq hy inI0).mp z)) ?_
  have e9 : Int32.ofInt x - Int32.ofInt x / Int32.ofInt y * Int32.ofInt y = Int32.ofInt (x.tmod y) := by
    have e8 : Int32.ofInt x / Int32.ofInt y = Int32.ofInt (x.tdiv y) := by
      rw [← Int32.toInt_inj, Int32.toInt_div_of_ne_left _ _ (fun z => h1 ((pI_eq (y := -2147483648) hx ⟨by decide, by decide⟩).mp z)), inI_to hx, inI_to hy, inI_to (tdiv_inI hx h1)]
    rw [e8, ← Int32.ofInt_mul, ← Int32.ofInt_sub, Int.tmod_def, Int.mul_comm]
  first | (rw [e9]; exact k l s0 D dA ad p e R s m args below meth c H locs cells slots mc ms ls hG hC hW hL) | exact e9 ▸ k l s0 D dA ad p e R s m args below meth c H locs cells slots mc ms ls hG hC hW hL
theorem s_ldiv {x y : Int} (hd : decode M.2.1 pc = .ok (.ldiv, 1)) (hx : inL x) (hy : inL y) (h0 : ¬ y = 0) (h1 : 0 ≤ x) (k : SE_ E M d bc bs Q (pc + 1) L ((1, x.tdiv y) :: st) N h) : SE_ E M d bc bs Q pc L ((1, y) :: (1, x) :: st) N h := by
  intro l s0 D dA ad p e R s m args below meth c H locs cells slots mc ms ls hG hC hW hL
  refine lv_ldiv (cx_ex hC) (cx_cb hC) hd (fun z => h0 ((pL_eq hy inL0).mp z)) ?_
  have e9 : Int64.ofInt x / Int64.ofInt y = Int64.ofInt (x.tdiv y) := by
    rw [← Int64.toInt_inj, Int64.toInt_div_of_ne_left _ _ (fun z => by have := (pL_eq (y := -9223372036854775808) hx ⟨by decide, by decide⟩).mp (z.trans (by decide)); omega), inL_to hx, inL_to hy, inL_to (tdiv_inL hx h1)]
  rw [e9]
  exact k l s0 D dA ad p e R s m args below meth c H locs cells slots mc ms ls hG hC hW hL
theorem s_lrem {x y : Int} (hd : decode M.2.1 pc = .ok (.lrem, 1)) (hx : inL x) (hy : inL y) (h0 : ¬ y = 0) (h1 : 0 ≤ x) (k : SE_ E M d bc bs Q (pc + 1) L ((1, x.tmod y) :: st) N h) : SE_ E M d bc bs Q pc L ((1, y) :: (1, x) :: st) N h := by
  intro l s0 D dA ad p e R s m args below meth c H locs cells slots mc ms ls hG hC hW hL
  refine lv_lrem (cx_ex hC) (cx_cb hC) hd (fun z => h0 ((pL_eq hy inL0).mp z)) ?_
  have e9 : Int64.ofInt x - Int64.ofInt x / Int64.ofInt y * Int64.ofInt y = Int64.ofInt (x.tmod y) := by
    have e8 : Int64.ofInt x / Int64.ofInt y = Int64.ofInt (x.tdiv y) := by
      rw [← Int64.toInt_inj, Int64.toInt_div_of_ne_left _ _ (fun z => by have := (pL_eq (y := -9223372036854775808) hx ⟨by decide, by decide⟩).mp (z.trans (by decide)); omega), inL_to hx, inL_to hy, inL_to (tdiv_inL hx h1)]
    rw [e8, ← Int64.ofInt_mul, ← Int64.ofInt_sub, Int.tmod_def, Int.mul_comm]
  first | (rw [e9]; exact k l s0 D dA ad p e R s m args below meth c H locs cells slots mc ms ls hG hC hW hL) | exact e9 ▸ k l s0 D dA ad p e R s m args below meth c H locs cells slots mc ms ls hG hC hW hL
theorem s_alen {a v : Int} {t n : Nat} (hd : decode M.2.1 pc = .ok (.arraylength, 1)) (A : isA N a t n) (ht : t ≤ 5) (hv : (n : Int) = v) (k : SE_ E M d bc bs Q (pc + 1) L ((0, v) :: st) N h) : SE_ E M d bc bs Q pc L ((2, a) :: st) N h := by
  intro l s0 D dA ad p e R s m args below meth c H locs cells slots mc ms ls hG hC hW hL
  obtain ⟨⟨⟨hP, hD⟩, hb1, hb2, hb3⟩, hS⟩ := id hW
  subst hv
  have e7 := wl_arr (ad := ad) (dA := dA) (h := h) A (by omega)
  have hK := Gl_K hG (cx_al hC)
  match t, ht, e7 with
  | 0, _, e7 => exact va_alen (cx_ex hC) (cx_cb hC) hK hP a.toNat 0 e7 (ty := .int) rfl rfl hd (k l s0 D dA ad p e R s m args below meth c H locs cells slots mc ms ls hG hC hW hL)
  | 1, _, e7 => exact va_alen (cx_ex hC) (cx_cb hC) hK hP a.toNat 1 e7 (ty := .byte) rfl rfl hd (k l s0 D dA ad p e R s m args below meth c H locs cells slots mc ms ls hG hC hW hL)
  | 2, _, e7 => exact va_alen (cx_ex hC) (cx_cb hC) hK hP a.toNat 2 e7 (ty := .boolean) rfl rfl hd (k l s0 D dA ad p e R s m args below meth c H locs cells slots mc ms ls hG hC hW hL)
  | 3, _, e7 => exact va_alen (cx_ex hC) (cx_cb hC) hK hP a.toNat 3 e7 (ty := .long) rfl rfl hd (k l s0 D dA ad p e R s m args below meth c H locs cells slots mc ms ls hG hC hW hL)
  | 4, _, e7 => exact va_alen (cx_ex hC) (cx_cb hC) hK hP a.toNat 4 e7 (ty := .array .int) rfl rfl hd (k l s0 D dA ad p e R s m args below meth c H locs cells slots mc ms ls hG hC hW hL)
  | 5, _, e7 => exact va_alen (cx_ex hC) (cx_cb hC) hK hP a.toNat 5 e7 (ty := .array .byte) rfl rfl hd (k l s0 D dA ad p e R s m args below meth c H locs cells slots mc ms ls hG hC hW hL)
theorem s_tabIn {dflt lo hi off : Int} {offs : Array Int} {len tgt : Nat} {x : Int} (hd : decode M.2.1 pc = .ok (.tableswitch dflt lo hi offs, len)) (hx : inI x) (h1 : lo ≤ x) (h2 : x ≤ hi) (ho : offs[(x - lo).toNat]? = some off) (ht : (pc : Int) + off = (tgt : Int)) (k : SE_ E M d bc bs Q tgt L st N h) : SE_ E M d bc bs Q pc L ((0, x) :: st) N h :=
  fun l s0 D dA ad p e R s m args below meth c H locs cells slots mc ms ls hG hC hW hL => lv_tableIn (cx_ex hC) (cx_cb hC) hd (by show ¬ (Int32.ofInt x).toInt < lo; rw [inI_to hx]; omega) (by show ¬ hi < (Int32.ofInt x).toInt; rw [inI_to hx]; omega) (by show offs[((Int32.ofInt x).toInt - lo).toNat]? = some off; rw [inI_to hx]; exact ho) ht (k l s0 D dA ad p e R s m args below meth c H locs cells slots mc ms ls hG hC hW hL)
theorem s_tabOut {dflt lo hi : Int} {offs : Array Int} {len tgt : Nat} {x : Int} (hd : decode M.2.1 pc = .ok (.tableswitch dflt lo hi offs, len)) (hx : inI x) (h1 : x < lo ∨ hi < x) (ht : (pc : Int) + dflt = (tgt : Int)) (k : SE_ E M d bc bs Q tgt L st N h) : SE_ E M d bc bs Q pc L ((0, x) :: st) N h :=
  fun l s0 D dA ad p e R s m args below meth c H locs cells slots mc ms ls hG hC hW hL => lv_tableOut (cx_ex hC) (cx_cb hC) hd (by show (Int32.ofInt x).toInt < lo ∨ hi < (Int32.ofInt x).toInt; rw [inI_to hx]; exact h1) ht (k l s0 D dA ad p e R s m args below meth c H locs cells slots mc ms ls hG hC hW hL)
theorem nI_ofI (n : Nat) : nI n = Int32.ofInt (n : Int) := (Int32.ofInt_eq_ofNat).symm
theorem bv_mod (x : Int) (k : Nat) (hk : k ≤ 32) : (((Int32.ofInt x).toBitVec.toNat % 2 ^ k : Nat) : Int) = x % ((2 ^ k : Nat) : Int) := by
  have e : (Int32.ofInt x).toBitVec.toNat = (x % 4294967296).toNat := by
    show (BitVec.ofInt 32 x).toNat = _
    rw [BitVec.toNat_ofInt]
    rfl
  rw [e, Int.natCast_emod, Int.toNat_of_nonneg (Int.emod_nonneg _ (by decide))]
  have hd : ((2 ^ k : Nat) : Int) ∣ 4294967296 := by
    have h9 : (2 ^ k : Nat) ∣ 2 ^ 32 := Nat.pow_dvd_pow 2 hk
    exact Int.natCast_dvd_natCast.mpr h9
  exact Int.emod_emod_of_dvd x hd
theorem s_iand {x m : Int} (k : Nat) (hd : decode M.2.1 pc = .ok (.iand, 1)) (hm : (Int32.ofInt m).toBitVec.toNat = 2 ^ k - 1) (hk : k ≤ 32) {z : Int} (hz : ((2 ^ k : Nat) : Int) = z) (kk : SE_ E M d bc bs Q (pc + 1) L ((0, x % z) :: st) N h) : SE_ E M d bc bs Q pc L ((0, m) :: (0, x) :: st) N h := by
  intro l s0 D dA ad p e R s m args below meth c H locs cells slots mc ms ls hG hC hW hL
  refine lv_iand (cx_ex hC) (cx_cb hC) hd ?_
  rw [pk_and (Int32.ofInt x) k hm, nI_ofI, bv_mod x k hk, hz]
  exact kk l s0 D dA ad p e R s m args below meth c H locs cells slots mc ms ls hG hC hW hL
theorem shr_k {s : Int} (h0 : 0 ≤ s) (h1 : s < 32) : ((Int32.ofInt s).toBitVec.smod 32).toNat = s.toNat := by
  have h2 : ∀ n : Nat, n < 32 → ((Int32.ofInt (n : Int)).toBitVec.smod 32).toNat = n := by decide +kernel
  have h3 := h2 s.toNat (by omega)
  rwa [toN_ h0] at h3
theorem and31 {w : Int} (h0 : 0 ≤ w) (h1 : w < 32) : Int32.ofInt w &&& 31 = Int32.ofInt w := by
  have h2 : ∀ n : Nat, n < 32 → Int32.ofInt (n : Int) &&& 31 = Int32.ofInt (n : Int) := by decide +kernel
  have h3 := h2 w.toNat (by omega)
  rwa [toN_ h0] at h3
theorem s_ishr {x w : Int} (hd : decode M.2.1 pc = .ok (.ishr, 1)) (hx : inI x) (h0 : 0 ≤ w) (h1 : w < 32) (kk : SE_ E M d bc bs Q (pc + 1) L ((0, x / 2 ^ w.toNat) :: st) N h) : SE_ E M d bc bs Q pc L ((0, w) :: (0, x) :: st) N h := by
  intro l s0 D dA ad p e R s m args below meth c H locs cells slots mc ms ls hG hC hW hL
  refine lv_ishr (cx_ex hC) (cx_cb hC) hd ?_
  have e9 : Int32.ofInt x >>> Int32.ofInt w = Int32.ofInt (x / 2 ^ w.toNat) := by
    have h2 : (Int32.ofInt x >>> Int32.ofInt w).toInt = x / 2 ^ w.toNat := by
      rw [pk_shr _ _ w.toNat (shr_k h0 h1), inI_to hx, Int.shiftRight_eq_div_pow]
      rfl
    rw [← h2, Int32.ofInt_toInt]
  show W p l e R s m args below meth c H locs cells slots _ (F0 m (pc + 1) ls (Value.int (Int32.ofInt x >>> (Int32.ofInt w &&& 31)) :: List.map (rv_ ad) st))
  rw [and31 h0 h1, e9]
  exact kk l s0 D dA ad p e R s m args below meth c H locs cells slots mc ms ls hG hC hW hL
theorem s_ishl {x w : Int} (hd : decode M.2.1 pc = .ok (.ishl, 1)) (h0 : 0 ≤ w) (h1 : w < 32) (kk : SE_ E M d bc bs Q (pc + 1) L ((0, x * 2 ^ w.toNat) :: st) N h) : SE_ E M d bc bs Q pc L ((0, w) :: (0, x) :: st) N h := by
  intro l s0 D dA ad p e R s m args below meth c H locs cells slots mc ms ls hG hC hW hL
  refine lv_ishl (cx_ex hC) (cx_cb hC) hd ?_
  have e9 : Int32.ofInt x <<< Int32.ofInt w = Int32.ofInt (x * 2 ^ w.toNat) := by
    apply Int32.toBitVec_inj.mp
    apply BitVec.eq_of_toNat_eq
    rw [pk_shl _ _ w.toNat (shr_k h0 h1)]
    show (BitVec.ofInt 32 x).toNat * 2 ^ w.toNat % 2 ^ 32 = (BitVec.ofInt 32 (x * 2 ^ w.toNat)).toNat
    rw [BitVec.toNat_ofInt, BitVec.toNat_ofInt]
    have h3 := Int.emod_nonneg x (b := 4294967296) (by decide)
    have h4 := Int.emod_nonneg (x * 2 ^ w.toNat) (b := 4294967296) (by decide)
    apply Int.ofNat.inj
    show (((x % 4294967296).toNat * 2 ^ w.toNat % 4294967296 : Nat) : Int) = (((x * 2 ^ w.toNat) % 4294967296).toNat : Int)
    rw [Int.natCast_emod, Int.natCast_mul, Int.toNat_of_nonneg h3, Int.toNat_of_nonneg h4, Int.natCast_pow]
    show x % 4294967296 * 2 ^ w.toNat % 4294967296 = _
    rw [Int.mul_emod, Int.emod_emod, ← Int.mul_emod]
  show W p l e R s m args below meth c H locs cells slots _ (F0 m (pc + 1) ls (Value.int (Int32.ofInt x <<< (Int32.ofInt w &&& 31)) :: List.map (rv_ ad) st))
  rw [and31 h0 h1, e9]
  exact kk l s0 D dA ad p e R s m args below meth c H locs cells slots mc ms ls hG hC hW hL
end RULES4
