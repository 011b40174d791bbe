theorem ne09 : (0 : Nat) ≠ 9 := by decide
theorem ne19 : (1 : Nat) ≠ 9 := by decide
theorem ne29 : (2 : Nat) ≠ 9 := by decide
theorem ne01 : (0 : Nat) ≠ 1 := by decide
theorem ne21 : (2 : Nat) ≠ 1 := by decide
section RULES
variable {E : EP} {M : PM} {d bc bs : Nat} {Q : PQ} {pc : Nat} {L st : List PV} {N : Nat} {h : PH}
theorem s_iconst {n : Int} (hd : decode M.2.1 pc = .ok (.iconst n, 1)) (k : SE_ E M d bc bs Q (pc + 1) L ((0, n) :: st) N h) : SE_ E M d bc bs Q pc L st N h :=
  fun l s0 D dA ad p e R s m args below meth c H locs cells slots mc ms ls hG hC hW hL => lv_iconst (cx_ex hC) (cx_cb hC) hd rfl (k l s0 D dA ad p e R s m args below meth c H locs cells slots mc ms ls hG hC hW hL)
theorem s_bipush {n : Int} (hd : decode M.2.1 pc = .ok (.bipush n, 2)) (hv : (Int8.ofInt n).toInt32 = Int32.ofInt n) (k : SE_ E M d bc bs Q (pc + 2) L ((0, n) :: st) N h) : SE_ E M d bc bs Q pc L st N h :=
  fun l s0 D dA ad p e R s m args below meth c H locs cells slots mc ms ls hG hC hW hL => lv_bipush (cx_ex hC) (cx_cb hC) hd hv (k l s0 D dA ad p e R s m args below meth c H locs cells slots mc ms ls hG hC hW hL)
theorem s_sipush {n : Int} (hd : decode M.2.1 pc = .ok (.sipush n, 3)) (hv : (Int16.ofInt n).toInt32 = Int32.ofInt n) (k : SE_ E M d bc bs Q (pc + 3) L ((0, n) :: st) N h) : SE_ E M d bc bs Q pc L st N h :=
  fun l s0 D dA ad p e R s m args below meth c H locs cells slots mc ms ls hG hC hW hL => lv_sipush (cx_ex hC) (cx_cb hC) hd hv (k l s0 D dA ad p e R s m args below meth c H locs cells slots mc ms ls hG hC hW hL)
theorem s_ldc {i : Nat} {z : Int} (hd : decode M.2.1 pc = .ok (.ldc i, 2)) (hw : Jvm.Cond.constant M.1 i (Int32.ofInt z) ∈ TBL) (k : SE_ E M d bc bs Q (pc + 2) L ((0, z) :: st) N h) : SE_ E M d bc bs Q pc L st N h :=
  fun l s0 D dA ad p e R s m args below meth c H locs cells slots mc ms ls hG hC hW hL => lv_ldc (cx_ex hC) (cx_cb hC) (cx_own hC) ((cx_ts hC) _ hw) hd (k l s0 D dA ad p e R s m args below meth c H locs cells slots mc ms ls hG hC hW hL)
theorem s_ldcw {i : Nat} {z : Int} (hd : decode M.2.1 pc = .ok (.ldc_w i, 3)) (hw : Jvm.Cond.constant M.1 i (Int32.ofInt z) ∈ TBL) (k : SE_ E M d bc bs Q (pc + 3) L ((0, z) :: st) N h) : SE_ E M d bc bs Q pc L st N h :=
  fun l s0 D dA ad p e R s m args below meth c H locs cells slots mc ms ls hG hC hW hL => lv_ldcw (cx_ex hC) (cx_cb hC) (cx_own hC) ((cx_ts hC) _ hw) hd (k l s0 D dA ad p e R s m args below meth c H locs cells slots mc ms ls hG hC hW hL)
theorem s_ldc2 {i : Nat} {z : Int} (hd : decode M.2.1 pc = .ok (.ldc2_w i, 3)) (hw : Jvm.Cond.constantLong M.1 i (Int64.ofInt z) ∈ TBL) (k : SE_ E M d bc bs Q (pc + 3) L ((1, z) :: st) N h) : SE_ E M d bc bs Q pc L st N h :=
  fun l s0 D dA ad p e R s m args below meth c H locs cells slots mc ms ls hG hC hW hL => lv_ldc2 (cx_ex hC) (cx_cb hC) (cx_own hC) ((cx_ts hC) _ hw) hd (k l s0 D dA ad p e R s m args below meth c H locs cells slots mc ms ls hG hC hW hL)
theorem s_lconst {n : Fin 2} (hd : decode M.2.1 pc = .ok (.lconst n, 1)) (k : SE_ E M d bc bs Q (pc + 1) L ((1, ((n : Nat) : Int)) :: st) N h) : SE_ E M d bc bs Q pc L st N h :=
  fun l s0 D dA ad p e R s m args below meth c H locs cells slots mc ms ls hG hC hW hL => lv_lconst (cx_ex hC) (cx_cb hC) hd rfl (k l s0 D dA ad p e R s m args below meth c H locs cells slots mc ms ls hG hC hW hL)
/-! loads -/
theorem s_iload_n {i : Fin 4} {x : Int} (hd : decode M.2.1 pc = .ok (.iload_n i, 1)) (hi : L[(i : Nat)]? = some (0, x)) (k : SE_ E M d bc bs Q (pc + 1) L ((0, x) :: st) N h) : SE_ E M d bc bs Q pc L st N h :=
  fun l s0 D dA ad p e R s m args below meth c H locs cells slots mc ms ls hG hC hW hL => lv_iload_n (cx_ex hC) (cx_cb hC) hd rfl (as_get hL hi ne09) (k l s0 D dA ad p e R s m args below meth c H locs cells slots mc ms ls hG hC hW hL)
theorem s_iload {i : Nat} {x : Int} (hd : decode M.2.1 pc = .ok (.iload i, 2)) (hi : L[i]? = some (0, x)) (k : SE_ E M d bc bs Q (pc + 2) L ((0, x) :: st) N h) : SE_ E M d bc bs Q pc L st N h :=
  fun l s0 D dA ad p e R s m args below meth c H locs cells slots mc ms ls hG hC hW hL => lv_iload (cx_ex hC) (cx_cb hC) hd (as_get hL hi ne09) (k l s0 D dA ad p e R s m args below meth c H locs cells slots mc ms ls hG hC hW hL)
theorem s_aload_n {i : Fin 4} {x : Int} (hd : decode M.2.1 pc = .ok (.aload_n i, 1)) (hi : L[(i : Nat)]? = some (2, x)) (k : SE_ E M d bc bs Q (pc + 1) L ((2, x) :: st) N h) : SE_ E M d bc bs Q pc L st N h :=
  fun l s0 D dA ad p e R s m args below meth c H locs cells slots mc ms ls hG hC hW hL => lv_aload_n (cx_ex hC) (cx_cb hC) hd rfl (as_get hL hi ne29) (k l s0 D dA ad p e R s m args below meth c H locs cells slots mc ms ls hG hC hW hL)
theorem s_aload {i : Nat} {x : Int} (hd : decode M.2.1 pc = .ok (.aload i, 2)) (hi : L[i]? = some (2, x)) (k : SE_ E M d bc bs Q (pc + 2) L ((2, x) :: st) N h) : SE_ E M d bc bs Q pc L st N h :=
  fun l s0 D dA ad p e R s m args below meth c H locs cells slots mc ms ls hG hC hW hL => lv_aload (cx_ex hC) (cx_cb hC) hd (as_get hL hi ne29) (k l s0 D dA ad p e R s m args below meth c H locs cells slots mc ms ls hG hC hW hL)
theorem s_lload_n {i : Fin 4} {x : Int} (hd : decode M.2.1 pc = .ok (.lload_n i, 1)) (hi : L[(i : Nat)]? = some (1, x)) (k : SE_ E M d bc bs Q (pc + 1) L ((1, x) :: st) N h) : SE_ E M d bc bs Q pc L st N h :=
  fun l s0 D dA ad p e R s m args below meth c H locs cells slots mc ms ls hG hC hW hL => lv_lload_n (cx_ex hC) (cx_cb hC) hd rfl (as_get hL hi ne19) (k l s0 D dA ad p e R s m args below meth c H locs cells slots mc ms ls hG hC hW hL)
theorem s_lload {i : Nat} {x : Int} (hd : decode M.2.1 pc = .ok (.lload i, 2)) (hi : L[i]? = some (1, x)) (k : SE_ E M d bc bs Q (pc + 2) L ((1, x) :: st) N h) : SE_ E M d bc bs Q pc L st N h :=
  fun l s0 D dA ad p e R s m args below meth c H locs cells slots mc ms ls hG hC hW hL => lv_lload (cx_ex hC) (cx_cb hC) hd (as_get hL hi ne19) (k l s0 D dA ad p e R s m args below meth c H locs cells slots mc ms ls hG hC hW hL)
/-! stores -/
theorem s_istore_n {i : Fin 4} {x : Int} {L' : List PV} (hd : decode M.2.1 pc = .ok (.istore_n i, 1)) (hn : (i : Nat) < M.2.2.1) (hb : Nat.beq (L.getD ((i : Nat) - 1) (0, 0)).1 1 = false) (hs : L.set i (0, x) = L') (k : SE_ E M d bc bs Q (pc + 1) L' st N h) : SE_ E M d bc bs Q pc L ((0, x) :: st) N h :=
  fun l s0 D dA ad p e R s m args below meth c H locs cells slots mc ms ls hG hC hW hL => lv_istore_n (cx_ex hC) (cx_cb hC) hd rfl hL hn rfl (fun ls' h' => k l s0 D dA ad p e R s m args below meth c H locs cells slots mc ms ls' hG hC hW (hs ▸ as_set (v := (0, x)) ne01 hb h'))
theorem s_istore {i : Nat} {x : Int} {L' : List PV} (hd : decode M.2.1 pc = .ok (.istore i, 2)) (hn : i < M.2.2.1) (hb : Nat.beq (L.getD (i - 1) (0, 0)).1 1 = false) (hs : L.set i (0, x) = L') (k : SE_ E M d bc bs Q (pc + 2) L' st N h) : SE_ E M d bc bs Q pc L ((0, x) :: st) N h :=
  fun l s0 D dA ad p e R s m args below meth c H locs cells slots mc ms ls hG hC hW hL => lv_istore (cx_ex hC) (cx_cb hC) hd hL hn rfl (fun ls' h' => k l s0 D dA ad p e R s m args below meth c H locs cells slots mc ms ls' hG hC hW (hs ▸ as_set (v := (0, x)) ne01 hb h'))
theorem s_astore_n {i : Fin 4} {x : Int} {L' : List PV} (hd : decode M.2.1 pc = .ok (.astore_n i, 1)) (hn : (i : Nat) < M.2.2.1) (hb : Nat.beq (L.getD ((i : Nat) - 1) (0, 0)).1 1 = false) (hs : L.set i (2, x) = L') (k : SE_ E M d bc bs Q (pc + 1) L' st N h) : SE_ E M d bc bs Q pc L ((2, x) :: st) N h :=
  fun l s0 D dA ad p e R s m args below meth c H locs cells slots mc ms ls hG hC hW hL => lv_astore_n (cx_ex hC) (cx_cb hC) hd rfl hL hn rfl (fun ls' h' => k l s0 D dA ad p e R s m args below meth c H locs cells slots mc ms ls' hG hC hW (hs ▸ as_set (v := (2, x)) ne21 hb h'))
theorem s_astore {i : Nat} {x : Int} {L' : List PV} (hd : decode M.2.1 pc = .ok (.astore i, 2)) (hn : i < M.2.2.1) (hb : Nat.beq (L.getD (i - 1) (0, 0)).1 1 = false) (hs : L.set i (2, x) = L') (k : SE_ E M d bc bs Q (pc + 2) L' st N h) : SE_ E M d bc bs Q pc L ((2, x) :: st) N h :=
  fun l s0 D dA ad p e R s m args below meth c H locs cells slots mc ms ls hG hC hW hL => lv_astore (cx_ex hC) (cx_cb hC) hd hL hn rfl (fun ls' h' => k l s0 D dA ad p e R s m args below meth c H locs cells slots mc ms ls' hG hC hW (hs ▸ as_set (v := (2, x)) ne21 hb h'))
theorem s_lstore_n {i : Fin 4} {x : Int} {L' : List PV} (hd : decode M.2.1 pc = .ok (.lstore_n i, 1)) (hn : (i : Nat) + 1 < M.2.2.1) (hb : Nat.beq (L.getD ((i : Nat) - 1) (0, 0)).1 1 = false) (hs : (L.set i (1, x)).set ((i : Nat) + 1) (9, 0) = L') (k : SE_ E M d bc bs Q (pc + 1) L' st N h) : SE_ E M d bc bs Q pc L ((1, x) :: st) N h :=
  fun l s0 D dA ad p e R s m args below meth c H locs cells slots mc ms ls hG hC hW hL => lv_lstore_n (cx_ex hC) (cx_cb hC) hd rfl hL hn rfl (fun ls' h' => k l s0 D dA ad p e R s m args below meth c H locs cells slots mc ms ls' hG hC hW (hs ▸ as_set2 hb h'))
theorem s_lstore {i : Nat} {x : Int} {L' : List PV} (hd : decode M.2.1 pc = .ok (.lstore i, 2)) (hn : i + 1 < M.2.2.1) (hb : Nat.beq (L.getD (i - 1) (0, 0)).1 1 = false) (hs : (L.set i (1, x)).set (i + 1) (9, 0) = L') (k : SE_ E M d bc bs Q (pc + 2) L' st N h) : SE_ E M d bc bs Q pc L ((1, x) :: st) N h :=
  fun l s0 D dA ad p e R s m args below meth c H locs cells slots mc ms ls hG hC hW hL => lv_lstore (cx_ex hC) (cx_cb hC) hd hL hn rfl (fun ls' h' => k l s0 D dA ad p e R s m args below meth c H locs cells slots mc ms ls' hG hC hW (hs ▸ as_set2 hb h'))
theorem s_iinc {i : Nat} {n x : Int} {L' : List PV} (hd : decode M.2.1 pc = .ok (.iinc i n, 3)) (hi : L[i]? = some (0, x)) (hn : i < M.2.2.1) (hb : Nat.beq (L.getD (i - 1) (0, 0)).1 1 = false) (hs : L.set i (0, x + n) = L') (k : SE_ E M d bc bs Q (pc + 3) L' st N h) : SE_ E M d bc bs Q pc L st N h := by
  intro l s0 D dA ad p e R s m args below meth c H locs cells slots mc ms ls hG hC hW hL
  obtain ⟨j, hj⟩ := List.getElem?_of_mem ((as_mem ad (i, .int (Int32.ofInt x)) L 0).mpr ⟨i, (0, x), hi, ne09, by simp [rv_]⟩)
  exact lv_iinc (cx_ex hC) (cx_cb hC) hd hL hj (Int32.ofInt_add x n).symm hn rfl (fun ls' h' => k l s0 D dA ad p e R s m args below meth c H locs cells slots mc ms ls' hG hC hW (hs ▸ as_set (v := (0, x + n)) ne01 hb h'))
/-! arithmetic -/
theorem s_iadd {x y : Int} (hd : decode M.2.1 pc = .ok (.iadd, 1)) (k : SE_ E M d bc bs Q (pc + 1) L ((0, x + y) :: st) N h) : SE_ E M d bc bs Q pc L ((0, y) :: (0, x) :: st) N h := by
  intro l s0 D dA ad p e R s m args below meth c H locs cells slots mc ms ls hG hC hW hL
  refine lv_iadd (cx_ex hC) (cx_cb hC) hd ?_
  rw [← Int32.ofInt_add]
  exact k l s0 D dA ad p e R s m args below meth c H locs cells slots mc ms ls hG hC hW hL
theorem s_isub {x y : Int} (hd : decode M.2.1 pc = .ok (.isub, 1)) (k : SE_ E M d bc bs Q (pc + 1) L ((0, x - y) :: st) N h) : SE_ E M d bc bs Q pc L ((0, y) :: (0, x) :: st) N h := by
  intro l s0 D dA ad p e R s m args below meth c H locs cells slots mc ms ls hG hC hW hL
  refine lv_isub (cx_ex hC) (cx_cb hC) hd ?_
  rw [← Int32.ofInt_sub]
  exact k l s0 D dA ad p e R s m args below meth c H locs cells slots mc ms ls hG hC hW hL
theorem s_imul {x y : Int} (hd : decode M.2.1 pc = .ok (.imul, 1)) (k : SE_ E M d bc bs Q (pc + 1) L ((0, x * y) :: st) N h) : SE_ E M d bc bs Q pc L ((0, y) :: (0, x) :: st) N h := by
  intro l s0 D dA ad p e R s m args below meth c H locs cells slots mc ms ls hG hC hW hL
  refine lv_imul (cx_ex hC) (cx_cb hC) hd ?_
  rw [← Int32.ofInt_mul]
  exact k l s0 D dA ad p e R s m args below meth c H locs cells slots mc ms ls hG hC hW hL
theorem s_ineg {x : Int} (hd : decode M.2.1 pc = .ok (.ineg, 1)) (k : SE_ E M d bc bs Q (pc + 1) L ((0, -x) :: st) N h) : SE_ E M d bc bs Q pc L ((0, x) :: st) N h := by
  intro l s0 D dA ad p e R s m args below meth c H locs cells slots mc ms ls hG hC hW hL
  refine lv_ineg (cx_ex hC) (cx_cb hC) hd ?_
  rw [← Int32.ofInt_neg]
  exact k l s0 D dA ad p e R s m args below meth c H locs cells slots mc ms ls hG hC hW hL
theorem s_goto {off : Int} {tgt : Nat} (hd : decode M.2.1 pc = .ok (.goto off, 3)) (ht : (pc : Int) + off = (tgt : Int)) (k : SE_ E M d bc bs Q tgt L st N h) : SE_ E M d bc bs Q pc L st N h :=
  fun l s0 D dA ad p e R s m args below meth c H locs cells slots mc ms ls hG hC hW hL => lv_goto (cx_ex hC) (cx_cb hC) hd ht (k l s0 D dA ad p e R s m args below meth c H locs cells slots mc ms ls hG hC hW hL)
theorem s_fg {L' : List PV} (hf : fg_ L L') (k : SE_ E M d bc bs Q pc L' st N h) : SE_ E M d bc bs Q pc L st N h :=
  fun l s0 D dA ad p e R s m args below meth c H locs cells slots mc ms ls hG hC hW hL => k l s0 D dA ad p e R s m args below meth c H locs cells slots mc ms ls hG hC hW (as_fg hf hL)
theorem s_dup {v : PV} (hd : decode M.2.1 pc = .ok (.dup, 1)) (hv : Nat.beq v.1 1 = false) (k : SE_ E M d bc bs Q (pc + 1) L (v :: v :: st) N h) : SE_ E M d bc bs Q pc L (v :: st) N h :=
  fun l s0 D dA ad p e R s m args below meth c H locs cells slots mc ms ls hG hC hW hL => lv_dup (cx_ex hC) (cx_cb hC) hd (by rw [rv_cat, if_neg (fun z => by rw [z] at hv; cases hv)]) (k l s0 D dA ad p e R s m args below meth c H locs cells slots mc ms ls hG hC hW hL)
theorem s_dup2 {v w : PV} (hd : decode M.2.1 pc = .ok (.dup2, 1)) (hv : Nat.beq v.1 1 = false) (hw : Nat.beq w.1 1 = false) (k : SE_ E M d bc bs Q (pc + 1) L (v :: w :: v :: w :: st) N h) : SE_ E M d bc bs Q pc L (v :: w :: st) N h :=
  fun l s0 D dA ad p e R s m args below meth c H locs cells slots mc ms ls hG hC hW hL => lv_dup2_11 (cx_ex hC) (cx_cb hC) hd (by rw [rv_cat, if_neg (fun z => by rw [z] at hv; cases hv)]) (by rw [rv_cat, if_neg (fun z => by rw [z] at hw; cases hw)]) (k l s0 D dA ad p e R s m args below meth c H locs cells slots mc ms ls hG hC hW hL)
theorem s_pop {v : PV} (hd : decode M.2.1 pc = .ok (.pop, 1)) (hv : Nat.beq v.1 1 = false) (k : SE_ E M d bc bs Q (pc + 1) L st N h) : SE_ E M d bc bs Q pc L (v :: st) N h :=
  fun l s0 D dA ad p e R s m args below meth c H locs cells slots mc ms ls hG hC hW hL => lv_pop (cx_ex hC) (cx_cb hC) hd (by rw [rv_cat, if_neg (fun z => by rw [z] at hv; cases hv)]) (k l s0 D dA ad p e R s m args below meth c H locs cells slots mc ms ls hG hC hW hL)
theorem s_icmp_eq {x y : Int} {off : Int} {tgt : Nat} (hd : decode M.2.1 pc = .ok (.if_icmp .eq off, 3)) (ht : (pc : Int) + off = (tgt : Int)) (hx : inI x) (hy : inI y) (kt : x = y → SE_ E M d bc bs Q tgt L st N h) (kf : ¬ x = y → SE_ E M d bc bs Q (pc + 3) L st N h) : SE_ E M d bc bs Q pc L ((0, y) :: (0, x) :: st) N h :=
  fun l s0 D dA ad p e R s m args below meth c H locs cells slots mc ms ls hG hC hW hL => lv_icmp_eq (cx_ex hC) (cx_cb hC) hd ht (fun a => kt ((pI_eq hx hy).mp a) l s0 D dA ad p e R s m args below meth c H locs cells slots mc ms ls hG hC hW hL) (fun a => kf (fun z => a ((pI_eq hx hy).mpr z)) l s0 D dA ad p e R s m args below meth c H locs cells slots mc ms ls hG hC hW hL)
theorem s_icmp_ne {x y : Int} {off : Int} {tgt : Nat} (hd : decode M.2.1 pc = .ok (.if_icmp .ne off, 3)) (ht : (pc : Int) + off = (tgt : Int)) (hx : inI x) (hy : inI y) (kt : ¬ x = y → SE_ E M d bc bs Q tgt L st N h) (kf : x = y → SE_ E M d bc bs Q (pc + 3) L st N h) : SE_ E M d bc bs Q pc L ((0, y) :: (0, x) :: st) N h :=
  fun l s0 D dA ad p e R s m args below meth c H locs cells slots mc ms ls hG hC hW hL => lv_icmp_ne (cx_ex hC) (cx_cb hC) hd ht (fun a => kt (fun z => a ((pI_eq hx hy).mpr z)) l s0 D dA ad p e R s m args below meth c H locs cells slots mc ms ls hG hC hW hL) (fun a => kf ((pI_eq hx hy).mp a) l s0 D dA ad p e R s m args below meth c H locs cells slots mc ms ls hG hC hW hL)
theorem s_icmp_lt {x y : Int} {off : Int} {tgt : Nat} (hd : decode M.2.1 pc = .ok (.if_icmp .lt off, 3)) (ht : (pc : Int) + off = (tgt : Int)) (hx : inI x) (hy : inI y) (kt : x < y → SE_ E M d bc bs Q tgt L st N h) (kf : y ≤ x → SE_ E M d bc bs Q (pc + 3) L st N h) : SE_ E M d bc bs Q pc L ((0, y) :: (0, x) :: st) N h :=
  fun l s0 D dA ad p e R s m args below meth c H locs cells slots mc ms ls hG hC hW hL => lv_icmp_lt (cx_ex hC) (cx_cb hC) hd ht (fun a => kt ((pI_lt hx hy).mp a) l s0 D dA ad p e R s m args below meth c H locs cells slots mc ms ls hG hC hW hL) (fun a => kf (Int.not_lt.mp (fun z => a ((pI_lt hx hy).mpr z))) l s0 D dA ad p e R s m args below meth c H locs cells slots mc ms ls hG hC hW hL)
theorem s_icmp_ge {x y : Int} {off : Int} {tgt : Nat} (hd : decode M.2.1 pc = .ok (.if_icmp .ge off, 3)) (ht : (pc : Int) + off = (tgt : Int)) (hx : inI x) (hy : inI y) (kt : y ≤ x → SE_ E M d bc bs Q tgt L st N h) (kf : x < y → SE_ E M d bc bs Q (pc + 3) L st N h) : SE_ E M d bc bs Q pc L ((0, y) :: (0, x) :: st) N h :=
  fun l s0 D dA ad p e R s m args below meth c H locs cells slots mc ms ls hG hC hW hL => lv_icmp_ge (cx_ex hC) (cx_cb hC) hd ht (fun a => kt ((pI_le hy hx).mp a) l s0 D dA ad p e R s m args below meth c H locs cells slots mc ms ls hG hC hW hL) (fun a => kf (Int.not_le.mp (fun z => a ((pI_le hy hx).mpr z))) l s0 D dA ad p e R s m args below meth c H locs cells slots mc ms ls hG hC hW hL)
theorem s_icmp_gt {x y : Int} {off : Int} {tgt : Nat} (hd : decode M.2.1 pc = .ok (.if_icmp .gt off, 3)) (ht : (pc : Int) + off = (tgt : Int)) (hx : inI x) (hy : inI y) (kt : y < x → SE_ E M d bc bs Q tgt L st N h) (kf : x ≤ y → SE_ E M d bc bs Q (pc + 3) L st N h) : SE_ E M d bc bs Q pc L ((0, y) :: (0, x) :: st) N h :=
  fun l s0 D dA ad p e R s m args below meth c H locs cells slots mc ms ls hG hC hW hL => lv_icmp_gt (cx_ex hC) (cx_cb hC) hd ht (fun a => kt ((pI_lt hy hx).mp a) l s0 D dA ad p e R s m args below meth c H locs cells slots mc ms ls hG hC hW hL) (fun a => kf (Int.not_lt.mp (fun z => a ((pI_lt hy hx).mpr z))) l s0 D dA ad p e R s m args below meth c H locs cells slots mc ms ls hG hC hW hL)
theorem s_icmp_le {x y : Int} {off : Int} {tgt : Nat} (hd : decode M.2.1 pc = .ok (.if_icmp .le off, 3)) (ht : (pc : Int) + off = (tgt : Int)) (hx : inI x) (hy : inI y) (kt : x ≤ y → SE_ E M d bc bs Q tgt L st N h) (kf : y < x → SE_ E M d bc bs Q (pc + 3) L st N h) : SE_ E M d bc bs Q pc L ((0, y) :: (0, x) :: st) N h :=
  fun l s0 D dA ad p e R s m args below meth c H locs cells slots mc ms ls hG hC hW hL => lv_icmp_le (cx_ex hC) (cx_cb hC) hd ht (fun a => kt ((pI_le hx hy).mp a) l s0 D dA ad p e R s m args below meth c H locs cells slots mc ms ls hG hC hW hL) (fun a => kf (Int.not_le.mp (fun z => a ((pI_le hx hy).mpr z))) l s0 D dA ad p e R s m args below meth c H locs cells slots mc ms ls hG hC hW hL)
theorem s_if_eq {x : Int} {off : Int} {tgt : Nat} (hd : decode M.2.1 pc = .ok (.ifCond .eq off, 3)) (ht : (pc : Int) + off = (tgt : Int)) (hx : inI x) (kt : x = 0 → SE_ E M d bc bs Q tgt L st N h) (kf : ¬ x = 0 → SE_ E M d bc bs Q (pc + 3) L st N h) : SE_ E M d bc bs Q pc L ((0, x) :: st) N h :=
  fun l s0 D dA ad p e R s m args below meth c H locs cells slots mc ms ls hG hC hW hL => lv_if_eq (cx_ex hC) (cx_cb hC) hd ht (fun a => kt ((pI_eq hx inI0).mp a) l s0 D dA ad p e R s m args below meth c H locs cells slots mc ms ls hG hC hW hL) (fun a => kf (fun z => a ((pI_eq hx inI0).mpr z)) l s0 D dA ad p e R s m args below meth c H locs cells slots mc ms ls hG hC hW hL)
theorem s_if_ne {x : Int} {off : Int} {tgt : Nat} (hd : decode M.2.1 pc = .ok (.ifCond .ne off, 3)) (ht : (pc : Int) + off = (tgt : Int)) (hx : inI x) (kt : ¬ x = 0 → SE_ E M d bc bs Q tgt L st N h) (kf : x = 0 → SE_ E M d bc bs Q (pc + 3) L st N h) : SE_ E M d bc bs Q pc L ((0, x) :: st) N h :=
  fun l s0 D dA ad p e R s m args below meth c H locs cells slots mc ms ls hG hC hW hL => lv_if_ne (cx_ex hC) (cx_cb hC) hd ht (fun a => kt (fun z => a ((pI_eq hx inI0).mpr z)) l s0 D dA ad p e R s m args below meth c H locs cells slots mc ms ls hG hC hW hL) (fun a => kf ((pI_eq hx inI0).mp a) l s0 D dA ad p e R s m args below meth c H locs cells slots mc ms ls hG hC hW hL)
theorem s_if_lt {x : Int} {off : Int} {tgt : Nat} (hd : decode M.2.1 pc = .ok (.ifCond .lt off, 3)) (ht : (pc : Int) + off = (tgt : Int)) (hx : inI x) (kt : x < 0 → SE_ E M d bc bs Q tgt L st N h) (kf : 0 ≤ x → SE_ E M d bc bs Q (pc + 3) L st N h) : SE_ E M d bc bs Q pc L ((0, x) :: st) N h :=
  fun l s0 D dA ad p e R s m args below meth c H locs cells slots mc ms ls hG hC hW hL => lv_if_lt (cx_ex hC) (cx_cb hC) hd ht (fun a => kt ((pI_lt hx inI0).mp a) l s0 D dA ad p e R s m args below meth c H locs cells slots mc ms ls hG hC hW hL) (fun a => kf (Int.not_lt.mp (fun z => a ((pI_lt hx inI0).mpr z))) l s0 D dA ad p e R s m args below meth c H locs cells slots mc ms ls hG hC hW hL)
theorem s_if_ge {x : Int} {off : Int} {tgt : Nat} (hd : decode M.2.1 pc = .ok (.ifCond .ge off, 3)) (ht : (pc : Int) + off = (tgt : Int)) (hx : inI x) (kt : 0 ≤ x → SE_ E M d bc bs Q tgt L st N h) (kf : x < 0 → SE_ E M d bc bs Q (pc + 3) L st N h) : SE_ E M d bc bs Q pc L ((0, x) :: st) N h :=
  fun l s0 D dA ad p e R s m args below meth c H locs cells slots mc ms ls hG hC hW hL => lv_if_ge (cx_ex hC) (cx_cb hC) hd ht (fun a => kt ((pI_le inI0 hx).mp a) l s0 D dA ad p e R s m args below meth c H locs cells slots mc ms ls hG hC hW hL) (fun a => kf (Int.not_le.mp (fun z => a ((pI_le inI0 hx).mpr z))) l s0 D dA ad p e R s m args below meth c H locs cells slots mc ms ls hG hC hW hL)
theorem s_if_gt {x : Int} {off : Int} {tgt : Nat} (hd : decode M.2.1 pc = .ok (.ifCond .gt off, 3)) (ht : (pc : Int) + off = (tgt : Int)) (hx : inI x) (kt : 0 < x → SE_ E M d bc bs Q tgt L st N h) (kf : x ≤ 0 → SE_ E M d bc bs Q (pc + 3) L st N h) : SE_ E M d bc bs Q pc L ((0, x) :: st) N h :=
  fun l s0 D dA ad p e R s m args below meth c H locs cells slots mc ms ls hG hC hW hL => lv_if_gt (cx_ex hC) (cx_cb hC) hd ht (fun a => kt ((pI_lt inI0 hx).mp a) l s0 D dA ad p e R s m args below meth c H locs cells slots mc ms ls hG hC hW hL) (fun a => kf (Int.not_lt.mp (fun z => a ((pI_lt inI0 hx).mpr z))) l s0 D dA ad p e R s m args below meth c H locs cells slots mc ms ls hG hC hW hL)
theorem s_if_le {x : Int} {off : Int} {tgt : Nat} (hd : decode M.2.1 pc = .ok (.ifCond .le off, 3)) (ht : (pc : Int) + off = (tgt : Int)) (hx : inI x) (kt : x ≤ 0 → SE_ E M d bc bs Q tgt L st N h) (kf : 0 < x → SE_ E M d bc bs Q (pc + 3) L st N h) : SE_ E M d bc bs Q pc L ((0, x) :: st) N h :=
  fun l s0 D dA ad p e R s m args below meth c H locs cells slots mc ms ls hG hC hW hL => lv_if_le (cx_ex hC) (cx_cb hC) hd ht (fun a => kt ((pI_le hx inI0).mp a) l s0 D dA ad p e R s m args below meth c H locs cells slots mc ms ls hG hC hW hL) (fun a => kf (Int.not_le.mp (fun z => a ((pI_le hx inI0).mpr z))) l s0 D dA ad p e R s m args below meth c H locs cells slots mc ms ls hG hC hW hL)
end RULES
def isO (N : Nat) (a : Int) (ci : Nat) : Prop := 0 ≤ a ∧ a.toNat < N ∧ sh_ a.toNat = (ci + 6, uN_ ci)
def isA (N : Nat) (a : Int) (t n : Nat) : Prop := 0 ≤ a ∧ a.toNat < N ∧ sh_ a.toNat = (t, n) ∧ n ≤ 1000
theorem ce_obj (ad : AD) (dA : Nat → ClassId) (n : Nat) (f : Int → Int) : ∀ ci : Nat, (ci ≠ 8 ∧ ci ≤ 9) → ce_ ad dA (ci + 6, n) f = .inr (ci, (List.range n).map fun k => fv_ ad (fk_ (fty_ ci k)) (f k))
  | 0, _ => rfl
  | 1, _ => rfl
  | 2, _ => rfl
  | 3, _ => rfl
  | 4, _ => rfl
  | 5, _ => rfl
  | 6, _ => rfl
  | 7, _ => rfl
  | 8, h => absurd rfl h.1
  | 9, _ => rfl
  | n + 10, h => absurd h.2 (by omega)
theorem toN_ {a : Int} (h : 0 ≤ a) : ((a.toNat : Nat) : Int) = a := Int.toNat_of_nonneg h
theorem wl_obj {ad : AD} {dA : Nat → ClassId} {N ci : Nat} {h : PH} {a : Int} (hc : ci ≠ 8 ∧ ci ≤ 9) (A : isO N a ci) : (wl_ ad dA N h)[a.toNat]? = some (ad.2 a, .inr (ci, (List.range (uN_ ci)).map fun k => fv_ ad (fk_ (fty_ ci k)) (h a k))) := by
  have e := wl_get (ad := ad) (dA := dA) (h := h) A.2.1 (sh_lowO hc.2 A.2.2)
  rw [A.2.2, toN_ A.1, ce_obj _ _ _ _ _ hc] at e
  exact e
theorem wl_arr {ad : AD} {dA : Nat → ClassId} {N t n : Nat} {h : PH} {a : Int} (A : isA N a t n) (ht : t ≤ 15 := by decide) : (wl_ ad dA N h)[a.toNat]? = some (ad.2 a, ce_ ad dA (t, n) (h a)) := by
  have e := wl_get (ad := ad) (dA := dA) (h := h) A.2.1 (sh_low (by rw [A.2.2.1]; exact ht))
  rw [A.2.2.1, toN_ A.1] at e
  exact e
theorem rng_at {α : Type} {n k : Nat} (f : Nat → α) (h : k < n) : ((List.range n).map f)[k]? = some (f k) := by
  rw [List.getElem?_map, List.getElem?_range h]
  rfl
theorem isO_ne {N ci : Nat} {a : Int} (hc : ci ≠ 8 ∧ ci ≤ 9) (A : isO N a ci) : a.toNat ≠ iSB := by
  intro e
  have h := A.2.2
  rw [e] at h
  have : (14 : Nat) = ci + 6 := congrArg Prod.fst h
  omega
theorem isA_ne {N t n : Nat} {a : Int} (ht : t ≤ 5) (A : isA N a t n) : a.toNat ≠ iSB := by
  intro e
  have h := A.2.2.1
  rw [e] at h
  have : (14 : Nat) = t := congrArg Prod.fst h
  omega
theorem Wd_put {s0 s : State} {D : va_G} {dA : Nat → ClassId} {ad : AD} {N : Nat} {H1 : Heap} {locs1 : List Loc} {h1 : PH} (hN : ¬ N < 199) (hz : s0.heap.size ≤ s.heap.size) (hs : ∀ q : Nat, q < s0.heap.size → s.heap[q]? = s0.heap[q]?) (hP : va_P D ucl (wl_ ad dA N h1) H1) (hD : va_D (own_ s0) (wl_ ad dA N h1)) (hS : va_S (own_ s0) s.heap H1 locs1) : Wd_ s0 D dA ad N h1 H1 ∧ va_S (own_ s0) s.heap H1 locs1 := by
  refine ⟨⟨⟨hP, hD⟩, Nat.le_trans hz hS.1, fun q hq => ?_, fun x => absurd x hN⟩, hS⟩
  rw [hS.2.1 q (Nat.lt_of_lt_of_le hq hz) (fun z => absurd hq (Nat.not_lt.mpr z))]
  exact hs q hq
section RULES2
variable {E : EP} {M : PM} {d bc bs : Nat} {Q : PQ} {pc : Nat} {L st : List PV} {N : Nat} {h : PH}
theorem Gl_K {l : Launch} {s0 s : State} {D : va_G} {dA : Nat → ClassId} {a2 : Int → Nat} (hG : Gl_ l s0 D dA a2) (ha : s0.vm.Alike s.vm) : va_K D ucl (tys_ dA) s := va_K.moved ha hG.2.1
/-- a field that holds a number is read -/
theorem s_geti {a z : Int} {idx ci k : Nat} (hd : decode M.2.1 pc = .ok (.getfield idx, 3)) (hw : Cond.fieldLink M.1 idx (uT_ ci k).1 (uT_ ci k).2.1 (uT_ ci k).2.2.1 ∈ TBL) (kl : Kl_ ci) (hk : k < uN_ ci) (hf : fk_ (fty_ ci k) = 0) (A : isO N a ci) (hz : (k : Int) = z)
    (kk : SE_ E M d bc bs Q (pc + 3) L ((0, h a z) :: st) N h) : SE_ E M d bc bs Q pc L ((2, a) :: st) N h := by
  subst hz
  intro l s0 D dA ad p e R s m args below meth c H locs cells slots mc ms ls hG hC hW hL
  obtain ⟨⟨⟨hP, hD⟩, hb1, hb2, hb3⟩, hS⟩ := id hW
  exact va_get (cx_ex hC) (cx_cb hC) (cx_ts hC) kl.2.2.1 (cx_own hC) (Gl_K hG (cx_al hC)) hP a.toNat (wl_obj kl.1 A) kl.2.1 k hk ((cx_ts hC) _ hw) (fun _ q => q) (v := .int (Int32.ofInt (h a k))) (by rw [rng_at _ hk, hf]; rfl) hd
    (kk l s0 D dA ad p e R s m args below meth c H locs cells slots mc ms ls hG hC hW hL)
/-- a field that holds a reference is read -/
theorem s_getr {a z : Int} {idx ci k : Nat} (hd : decode M.2.1 pc = .ok (.getfield idx, 3)) (hw : Cond.fieldLink M.1 idx (uT_ ci k).1 (uT_ ci k).2.1 (uT_ ci k).2.2.1 ∈ TBL) (kl : Kl_ ci) (hk : k < uN_ ci) (hf : fk_ (fty_ ci k) = 2) (A : isO N a ci) (hkz : (k : Int) = z) {b : Int} (hb : h a z = b) (hz : 0 ≤ b)
    (kk : SE_ E M d bc bs Q (pc + 3) L ((2, b) :: st) N h) : SE_ E M d bc bs Q pc L ((2, a) :: st) N h := by
  subst hkz
  intro l s0 D dA ad p e R s m args below meth c H locs cells slots mc ms ls hG hC hW hL
  obtain ⟨⟨⟨hP, hD⟩, hb1, hb2, hb3⟩, hS⟩ := id hW
  exact va_get (cx_ex hC) (cx_cb hC) (cx_ts hC) kl.2.2.1 (cx_own hC) (Gl_K hG (cx_al hC)) hP a.toNat (wl_obj kl.1 A) kl.2.1 k hk ((cx_ts hC) _ hw) (fun _ q => q) (v := .ref (ad.2 b)) (by rw [rng_at _ hk, hf, hb]; show some (va_rf (rf_ ad b)) = _; rw [rf_, if_neg (by omega)]; rfl) hd
    (kk l s0 D dA ad p e R s m args below meth c H locs cells slots mc ms ls hG hC hW hL)
theorem fv_set {ad : AD} {ci n k : Nat} {h : PH} {a z : Int} (hk : k < n) : ((List.range n).map fun j => fv_ ad (fk_ (fty_ ci j)) (h a j)).set k (fv_ ad (fk_ (fty_ ci k)) z) = (List.range n).map fun j => fv_ ad (fk_ (fty_ ci j)) (hs_ h a k z a j) := by
  refine List.ext_getElem? fun j => ?_
  by_cases e : j = k
  · subst e
    rw [List.getElem?_set_self (by simpa using hk), rng_at _ hk, hs_eq]
  · rw [List.getElem?_set_ne (fun q => e q.symm)]
    by_cases hj : j < n
    · rw [rng_at _ hj, rng_at _ hj, hs_ne h (fun q => e (by exact_mod_cast q.2))]
    · rw [List.getElem?_eq_none (by simpa using hj), List.getElem?_eq_none (by simpa using hj)]
/-- a field is written -/
theorem s_put {a z : Int} {v : PV} {idx ci k : Nat} (hd : decode M.2.1 pc = .ok (.putfield idx, 3)) (hw : Cond.fieldLink M.1 idx (uT_ ci k).1 (uT_ ci k).2.1 (uT_ ci k).2.2.1 ∈ TBL) (kl : Kl_ ci) (hk : k < uN_ ci) (hfin : (uT_ ci k).2.2.2 = false) (A : isO N a ci)
    (hv : ∀ ad : AD, rv_ ad v = fv_ ad (fk_ (fty_ ci k)) z) (hn : ∀ ad : AD, narrow (fty_ ci k) (rv_ ad v) = rv_ ad v ∧ fits (fty_ ci k) (rv_ ad v) = true)
    (kk : SE_ E M d bc bs Q (pc + 3) L st N (hs_ h a k z)) (hN : ¬ N < 199 := by decide) : SE_ E M d bc bs Q pc L (v :: (2, a) :: st) N h := by
  intro l s0 D dA ad p e R s m args below meth c H locs cells slots mc ms ls hG hC hW hL
  obtain ⟨⟨⟨hP, hD⟩, hb1, hb2, hb3⟩, hS⟩ := id hW
  refine va_put (cx_ex hC) (cx_cb hC) (cx_ts hC) kl.2.2.1 (fty_ ci) kl.2.2.2.1 kl.2.2.2.2 (cx_own hC) (Gl_K hG (cx_al hC)) hP hD hS a.toNat (wl_obj kl.1 A) kl.2.1 k hk ((cx_ts hC) _ hw) (fun _ q => q) hfin (kl.2.2.2.1 k hk) (hn ad).1 (hn ad).2 (by simpa using hk) hd ?_
  intro H1 locs1 hP1 hD1 hS1
  have e1 : (wl_ ad dA N h).set a.toNat (ad.2 a, .inr (ci, ((List.range (uN_ ci)).map fun j => fv_ ad (fk_ (fty_ ci j)) (h a j)).set k (rv_ ad v))) = wl_ ad dA N (hs_ h a k z) := by
    rw [hv ad, fv_set hk]
    have e2 := wl_set (ad := ad) (dA := dA) (h := h) (k := k) (v := z) A.2.1 (sh_lowO kl.1.2 A.2.2) (isO_ne kl.1 A)
    rw [toN_ A.1, A.2.2, ce_obj _ _ _ _ _ kl.1] at e2
    exact e2
  rw [e1] at hP1 hD1
  exact kk l s0 D dA ad p e R s m args below meth c H1 locs1 cells slots mc ms ls hG hC (Wd_put hN (cx_sz hC) (cx_ag hC) hP1 hD1 hS1) hL
/-- .. an int field -/
theorem s_puti {a x z : Int} {idx ci k : Nat} (hd : decode M.2.1 pc = .ok (.putfield idx, 3)) (hw : Cond.fieldLink M.1 idx (uT_ ci k).1 (uT_ ci k).2.1 (uT_ ci k).2.2.1 ∈ TBL) (kl : Kl_ ci) (hk : k < uN_ ci) (hfin : (uT_ ci k).2.2.2 = false) (hf : fty_ ci k = .int) (A : isO N a ci) (hz : (k : Int) = z)
    (kk : SE_ E M d bc bs Q (pc + 3) L st N (hs_ h a z x)) (hN : ¬ N < 199 := by decide) : SE_ E M d bc bs Q pc L ((0, x) :: (2, a) :: st) N h := by
  subst hz
  refine s_put hd hw kl hk hfin A (fun ad => ?_) (fun ad => ?_) kk hN
  · rw [hf]; rfl
  · rw [hf]; exact ⟨rfl, rfl⟩
/-- .. a boolean one -/
theorem s_putz {a x z : Int} {idx ci k : Nat} (hd : decode M.2.1 pc = .ok (.putfield idx, 3)) (hw : Cond.fieldLink M.1 idx (uT_ ci k).1 (uT_ ci k).2.1 (uT_ ci k).2.2.1 ∈ TBL) (kl : Kl_ ci) (hk : k < uN_ ci) (hfin : (uT_ ci k).2.2.2 = false) (hf : fty_ ci k = .boolean) (A : isO N a ci) (hz : (k : Int) = z) (hx : x = 0 ∨ x = 1)
    (kk : SE_ E M d bc bs Q (pc + 3) L st N (hs_ h a z x)) (hN : ¬ N < 199 := by decide) : SE_ E M d bc bs Q pc L ((0, x) :: (2, a) :: st) N h := by
  subst hz
  refine s_put hd hw kl hk hfin A (fun ad => ?_) (fun ad => ?_) kk hN
  · rw [hf]; rfl
  · rw [hf]; rcases hx with rfl | rfl <;> exact ⟨rfl, rfl⟩
/-- .. a reference -/
theorem s_putr {a x z : Int} {idx ci k : Nat} (hd : decode M.2.1 pc = .ok (.putfield idx, 3)) (hw : Cond.fieldLink M.1 idx (uT_ ci k).1 (uT_ ci k).2.1 (uT_ ci k).2.2.1 ∈ TBL) (kl : Kl_ ci) (hk : k < uN_ ci) (hfin : (uT_ ci k).2.2.2 = false) (hf : fk_ (fty_ ci k) = 2) (A : isO N a ci) (hz : (k : Int) = z) (hx : 0 ≤ x)
    (kk : SE_ E M d bc bs Q (pc + 3) L st N (hs_ h a z x)) (hN : ¬ N < 199 := by decide) : SE_ E M d bc bs Q pc L ((2, x) :: (2, a) :: st) N h := by
  subst hz
  refine s_put hd hw kl hk hfin A (fun ad => ?_) (fun ad => ?_) kk hN
  · rw [hf]
    show Value.ref (ad.2 x) = va_rf (rf_ ad x)
    rw [rf_, if_neg (by omega)]
    rfl
  · generalize fty_ ci k = t at hf
    cases t <;> first | exact ⟨rfl, rfl⟩ | (exact absurd hf (by decide))
end RULES2
