section RULES3
variable {E : EP} {M : PM} {d bc bs : Nat} {Q : PQ} {pc : Nat} {L st : List PV} {N : Nat} {h : PH}
/-! arrays are read -/
theorem s_iaload {a i : Int} {n : Nat} (hd : decode M.2.1 pc = .ok (.iaload, 1)) (A : isA N a 0 n) (h0 : 0 ≤ i) (h1 : i < n) (kk : SE_ E M d bc bs Q (pc + 1) L ((0, h a i) :: st) N h) : SE_ E M d bc bs Q pc L ((0, i) :: (2, a) :: st) N h := by
  intro l s0 D dA ad p e R s m args below meth c H locs cells slots mc ms ls hG hC hW hL
  obtain ⟨⟨⟨hP, hD⟩, hb1, hb2, hb3⟩, hS⟩ := id hW
  refine va_iald (cx_ex hC) (cx_cb hC) (Gl_K hG (cx_al hC)) hP a.toNat 0 (wl_arr A) rfl (pI_in h0 h1 (by have := A.2.2.2; omega)) hd ?_
  have hi : i < 2147483648 := by have := A.2.2.2; omega
  rw [pI_cl h0 hi, toN_ h0]
  exact kk l s0 D dA ad p e R s m args below meth c H locs cells slots mc ms ls hG hC hW hL
theorem s_baload1 {a i : Int} {n : Nat} (hd : decode M.2.1 pc = .ok (.baload, 1)) (A : isA N a 1 n) (h0 : 0 ≤ i) (h1 : i < n) (kk : SE_ E M d bc bs Q (pc + 1) L ((0, h a i) :: st) N h) : SE_ E M d bc bs Q pc L ((0, i) :: (2, a) :: st) N h := by
  intro l s0 D dA ad p e R s m args below meth c H locs cells slots mc ms ls hG hC hW hL
  obtain ⟨⟨⟨hP, hD⟩, hb1, hb2, hb3⟩, hS⟩ := id hW
  refine va_bald (cx_ex hC) (cx_cb hC) (Gl_K hG (cx_al hC)) hP a.toNat 1 (wl_arr A) rfl (pI_in h0 h1 (by have := A.2.2.2; omega)) hd ?_
  have hi : i < 2147483648 := by have := A.2.2.2; omega
  rw [pI_cl h0 hi, toN_ h0]
  exact kk l s0 D dA ad p e R s m args below meth c H locs cells slots mc ms ls hG hC hW hL
theorem s_baload2 {a i : Int} {n : Nat} (hd : decode M.2.1 pc = .ok (.baload, 1)) (A : isA N a 2 n) (h0 : 0 ≤ i) (h1 : i < n) (kk : SE_ E M d bc bs Q (pc + 1) L ((0, h a i) :: st) N h) : SE_ E M d bc bs Q pc L ((0, i) :: (2, a) :: st) N h := by
  intro l s0 D dA ad p e R s m args below meth c H locs cells slots mc ms ls hG hC hW hL
  obtain ⟨⟨⟨hP, hD⟩, hb1, hb2, hb3⟩, hS⟩ := id hW
  refine va_zald (cx_ex hC) (cx_cb hC) (Gl_K hG (cx_al hC)) hP a.toNat 2 (wl_arr A) rfl (pI_in h0 h1 (by have := A.2.2.2; omega)) hd ?_
  have hi : i < 2147483648 := by have := A.2.2.2; omega
  rw [pI_cl h0 hi, toN_ h0]
  exact kk l s0 D dA ad p e R s m args below meth c H locs cells slots mc ms ls hG hC hW hL
theorem s_laload {a i : Int} {n : Nat} (hd : decode M.2.1 pc = .ok (.laload, 1)) (A : isA N a 3 n) (h0 : 0 ≤ i) (h1 : i < n) (kk : SE_ E M d bc bs Q (pc + 1) L ((1, h a i) :: st) N h) : SE_ E M d bc bs Q pc L ((0, i) :: (2, a) :: st) N h := by
  intro l s0 D dA ad p e R s m args below meth c H locs cells slots mc ms ls hG hC hW hL
  obtain ⟨⟨⟨hP, hD⟩, hb1, hb2, hb3⟩, hS⟩ := id hW
  refine va_lald (cx_ex hC) (cx_cb hC) (Gl_K hG (cx_al hC)) hP a.toNat 3 (wl_arr A) rfl (pI_in h0 h1 (by have := A.2.2.2; omega)) hd ?_
  have hi : i < 2147483648 := by have := A.2.2.2; omega
  rw [pI_cl h0 hi, toN_ h0]
  exact kk l s0 D dA ad p e R s m args below meth c H locs cells slots mc ms ls hG hC hW hL
/-- a row of an array of arrays -/
theorem s_aaload4 {a i b : Int} {n : Nat} (hd : decode M.2.1 pc = .ok (.aaload, 1)) (A : isA N a 4 n) (h0 : 0 ≤ i) (h1 : i < n) (hb : h a i = b) (hz : 0 ≤ b) (kk : SE_ E M d bc bs Q (pc + 1) L ((2, b) :: st) N h) : SE_ E M d bc bs Q pc L ((0, i) :: (2, a) :: st) N h := by
  intro l s0 D dA ad p e R s m args below meth c H locs cells slots mc ms ls hG hC hW hL
  obtain ⟨⟨⟨hP, hD⟩, hb1, hb2, hb3⟩, hS⟩ := id hW
  have hi : i < 2147483648 := by have := A.2.2.2; omega
  have hv := pI_in h0 h1 (by have := A.2.2.2; omega)
  have hlt : (Int32.ofInt i).toNatClampNeg < n := Nat.not_le.mp fun q => hv (Or.inr q)
  refine W.aald (v := .ref (ad.2 b)) (ty := .array .int) (cx_ex hC) (cx_cb hC) (hP a.toNat _ (wl_arr A)) (((Gl_K hG (cx_al hC)).2 4 _ rfl).1 n (fun j => va_rf (rf_ ad (h a j)))) rfl (fun q => by cases q) (by show ¬ (_ ∨ (arrV _ _ _).slots.size ≤ _); rw [arrV_size]; exact hv) ?_ rfl rfl hd (kk l s0 D dA ad p e R s m args below meth c H locs cells slots mc ms ls hG hC hW hL)
  show (arrV _ _ _).slots[_]? = _
  rw [arrV_read _ _ hlt, pI_cl h0 hi]
  show some (va_rf (rf_ ad (h a ((i.toNat : Nat) : Int)))) = _
  rw [toN_ h0, hb, rf_, if_neg (by omega)]
  rfl
theorem s_aaload5 {a i b : Int} {n : Nat} (hd : decode M.2.1 pc = .ok (.aaload, 1)) (A : isA N a 5 n) (h0 : 0 ≤ i) (h1 : i < n) (hb : h a i = b) (hz : 0 ≤ b) (kk : SE_ E M d bc bs Q (pc + 1) L ((2, b) :: st) N h) : SE_ E M d bc bs Q pc L ((0, i) :: (2, a) :: st) N h := by
  intro l s0 D dA ad p e R s m args below meth c H locs cells slots mc ms ls hG hC hW hL
  obtain ⟨⟨⟨hP, hD⟩, hb1, hb2, hb3⟩, hS⟩ := id hW
  have hi : i < 2147483648 := by have := A.2.2.2; omega
  have hv := pI_in h0 h1 (by have := A.2.2.2; omega)
  have hlt : (Int32.ofInt i).toNatClampNeg < n := Nat.not_le.mp fun q => hv (Or.inr q)
  refine W.aald (v := .ref (ad.2 b)) (ty := .array .byte) (cx_ex hC) (cx_cb hC) (hP a.toNat _ (wl_arr A)) (((Gl_K hG (cx_al hC)).2 5 _ rfl).1 n (fun j => va_rf (rf_ ad (h a j)))) rfl (fun q => by cases q) (by show ¬ (_ ∨ (arrV _ _ _).slots.size ≤ _); rw [arrV_size]; exact hv) ?_ rfl rfl hd (kk l s0 D dA ad p e R s m args below meth c H locs cells slots mc ms ls hG hC hW hL)
  show (arrV _ _ _).slots[_]? = _
  rw [arrV_read _ _ hlt, pI_cl h0 hi]
  show some (va_rf (rf_ ad (h a ((i.toNat : Nat) : Int)))) = _
  rw [toN_ h0, hb, rf_, if_neg (by omega)]
  rfl
/-! arrays are written -/
theorem upd_hs {h : PH} {a i v : Int} (h0 : 0 ≤ i) (hi : i < 2147483648) : upd (fun k => Int32.ofInt (h a k)) (Int32.ofInt i).toNatClampNeg (Int32.ofInt v) = fun k : Nat => Int32.ofInt (hs_ h a i v a k) := by
  funext k
  rw [pI_cl h0 hi]
  by_cases e : k = i.toNat
  · subst e
    rw [toN_ h0, hs_eq]
    simp [upd]
  · rw [hs_ne h (fun q => e (by have := q.2; omega))]
    simp [upd, e]
theorem updL_hs {h : PH} {a i v : Int} (h0 : 0 ≤ i) (hi : i < 2147483648) : vp_updL (fun k => Int64.ofInt (h a k)) (Int32.ofInt i).toNatClampNeg (Int64.ofInt v) = fun k : Nat => Int64.ofInt (hs_ h a i v a k) := by
  funext k
  rw [pI_cl h0 hi]
  by_cases e : k = i.toNat
  · subst e
    rw [toN_ h0, hs_eq]
    simp [vp_updL]
  · rw [hs_ne h (fun q => e (by have := q.2; omega))]
    simp [vp_updL, e]
theorem s_iastore {a i v : Int} {n : Nat} (hd : decode M.2.1 pc = .ok (.iastore, 1)) (A : isA N a 0 n) (h0 : 0 ≤ i) (h1 : i < n) (kk : SE_ E M d bc bs Q (pc + 1) L st N (hs_ h a i v)) (hN : ¬ N < 199 := by decide) : SE_ E M d bc bs Q pc L ((0, v) :: (0, i) :: (2, a) :: st) N h := by
  intro l s0 D dA ad p e R s m args below meth c H locs cells slots mc ms ls hG hC hW hL
  obtain ⟨⟨⟨hP, hD⟩, hb1, hb2, hb3⟩, hS⟩ := id hW
  have hi : i < 2147483648 := by have := A.2.2.2; omega
  refine va_iast (cx_ex hC) (cx_cb hC) (Gl_K hG (cx_al hC)) hP hD hS a.toNat 0 (wl_arr A) rfl (pI_in h0 h1 (by have := A.2.2.2; omega)) hd ?_
  intro H1 locs1 hP1 hD1 hS1
  have e1 : (wl_ ad dA N h).set a.toNat (ad.2 a, .inl (dA 0, n, .inl (upd (fun k => Int32.ofInt (h a k)) (Int32.ofInt i).toNatClampNeg (Int32.ofInt v)))) = wl_ ad dA N (hs_ h a i v) := by
    rw [upd_hs h0 hi]
    have e2 := wl_set (ad := ad) (dA := dA) (h := h) (k := i) (v := v) A.2.1 (sh_low (by rw [A.2.2.1]; exact Nat.le_of_ble_eq_true rfl)) (isA_ne (by decide) A)
    rw [toN_ A.1, A.2.2.1] at e2
    exact e2
  have e9 := e1
  rw [e9] at hP1 hD1
  exact kk l s0 D dA ad p e R s m args below meth c H1 locs1 cells slots mc ms ls hG hC (Wd_put hN (cx_sz hC) (cx_ag hC) hP1 hD1 hS1) hL
theorem s_lastore {a i v : Int} {n : Nat} (hd : decode M.2.1 pc = .ok (.lastore, 1)) (A : isA N a 3 n) (h0 : 0 ≤ i) (h1 : i < n) (kk : SE_ E M d bc bs Q (pc + 1) L st N (hs_ h a i v)) (hN : ¬ N < 199 := by decide) : SE_ E M d bc bs Q pc L ((1, v) :: (0, i) :: (2, a) :: st) N h := by
  intro l s0 D dA ad p e R s m args below meth c H locs cells slots mc ms ls hG hC hW hL
  obtain ⟨⟨⟨hP, hD⟩, hb1, hb2, hb3⟩, hS⟩ := id hW
  have hi : i < 2147483648 := by have := A.2.2.2; omega
  refine va_last (cx_ex hC) (cx_cb hC) (Gl_K hG (cx_al hC)) hP hD hS a.toNat 3 (wl_arr A) rfl (pI_in h0 h1 (by have := A.2.2.2; omega)) hd ?_
  intro H1 locs1 hP1 hD1 hS1
  have e1 : (wl_ ad dA N h).set a.toNat (ad.2 a, .inl (dA 3, n, .inr (.inl (vp_updL (fun k => Int64.ofInt (h a k)) (Int32.ofInt i).toNatClampNeg (Int64.ofInt v))))) = wl_ ad dA N (hs_ h a i v) := by
    rw [updL_hs h0 hi]
    have e2 := wl_set (ad := ad) (dA := dA) (h := h) (k := i) (v := v) A.2.1 (sh_low (by rw [A.2.2.1]; exact Nat.le_of_ble_eq_true rfl)) (isA_ne (by decide) A)
    rw [toN_ A.1, A.2.2.1] at e2
    exact e2
  rw [e1] at hP1 hD1
  exact kk l s0 D dA ad p e R s m args below meth c H1 locs1 cells slots mc ms ls hG hC (Wd_put hN (cx_sz hC) (cx_ag hC) hP1 hD1 hS1) hL
theorem nar_b {v : Int} (h0 : -128 ≤ v) (h1 : v < 128) : vp_nar .byte (Int32.ofInt v) = Int32.ofInt v := by
  rw [vp_nar_byte, Int32.toInt8_ofInt, Int8.toInt32_ofInt (by simpa using h0) (by have : Int8.maxValue.toInt = 127 := rfl; omega)]
theorem nar_z {v : Int} (h0 : v = 0 ∨ v = 1) : vp_nar .boolean (Int32.ofInt v) = Int32.ofInt v := by
  rcases h0 with rfl | rfl <;> decide
theorem s_bastore1 {a i v : Int} {n : Nat} (hd : decode M.2.1 pc = .ok (.bastore, 1)) (A : isA N a 1 n) (h0 : 0 ≤ i) (h1 : i < n) (hv0 : -128 ≤ v) (hv1 : v < 128) (kk : SE_ E M d bc bs Q (pc + 1) L st N (hs_ h a i v)) (hN : ¬ N < 199 := by decide) : SE_ E M d bc bs Q pc L ((0, v) :: (0, i) :: (2, a) :: st) N h := by
  intro l s0 D dA ad p e R s m args below meth c H locs cells slots mc ms ls hG hC hW hL
  obtain ⟨⟨⟨hP, hD⟩, hb1, hb2, hb3⟩, hS⟩ := id hW
  have hi : i < 2147483648 := by have := A.2.2.2; omega
  refine va_bast (cx_ex hC) (cx_cb hC) (Gl_K hG (cx_al hC)) hP hD hS a.toNat 1 (wl_arr A) rfl (pI_in h0 h1 (by have := A.2.2.2; omega)) hd ?_
  intro H1 locs1 hP1 hD1 hS1
  have e1 : (wl_ ad dA N h).set a.toNat (ad.2 a, .inl (dA 1, n, .inl (upd (fun k => Int32.ofInt (h a k)) (Int32.ofInt i).toNatClampNeg (vp_nar .byte (Int32.ofInt v))))) = wl_ ad dA N (hs_ h a i v) := by
    rw [nar_b hv0 hv1, upd_hs h0 hi]
    have e2 := wl_set (ad := ad) (dA := dA) (h := h) (k := i) (v := v) A.2.1 (sh_low (by rw [A.2.2.1]; exact Nat.le_of_ble_eq_true rfl)) (isA_ne (by decide) A)
    rw [toN_ A.1, A.2.2.1] at e2
    exact e2
  rw [e1] at hP1 hD1
  exact kk l s0 D dA ad p e R s m args below meth c H1 locs1 cells slots mc ms ls hG hC (Wd_put hN (cx_sz hC) (cx_ag hC) hP1 hD1 hS1) hL
theorem s_bastore2 {a i v : Int} {n : Nat} (hd : decode M.2.1 pc = .ok (.bastore, 1)) (A : isA N a 2 n) (h0 : 0 ≤ i) (h1 : i < n) (hv : v = 0 ∨ v = 1) (kk : SE_ E M d bc bs Q (pc + 1) L st N (hs_ h a i v)) (hN : ¬ N < 199 := by decide) : SE_ E M d bc bs Q pc L ((0, v) :: (0, i) :: (2, a) :: st) N h := by
  intro l s0 D dA ad p e R s m args below meth c H locs cells slots mc ms ls hG hC hW hL
  obtain ⟨⟨⟨hP, hD⟩, hb1, hb2, hb3⟩, hS⟩ := id hW
  have hi : i < 2147483648 := by have := A.2.2.2; omega
  refine va_zast (cx_ex hC) (cx_cb hC) (Gl_K hG (cx_al hC)) hP hD hS a.toNat 2 (wl_arr A) rfl (pI_in h0 h1 (by have := A.2.2.2; omega)) hd ?_
  intro H1 locs1 hP1 hD1 hS1
  have e1 : (wl_ ad dA N h).set a.toNat (ad.2 a, .inl (dA 2, n, .inl (upd (fun k => Int32.ofInt (h a k)) (Int32.ofInt i).toNatClampNeg (vp_nar .boolean (Int32.ofInt v))))) = wl_ ad dA N (hs_ h a i v) := by
    rw [nar_z hv, upd_hs h0 hi]
    have e2 := wl_set (ad := ad) (dA := dA) (h := h) (k := i) (v := v) A.2.1 (sh_low (by rw [A.2.2.1]; exact Nat.le_of_ble_eq_true rfl)) (isA_ne (by decide) A)
    rw [toN_ A.1, A.2.2.1] at e2
    exact e2
  rw [e1] at hP1 hD1
  exact kk l s0 D dA ad p e R s m args below meth c H1 locs1 cells slots mc ms ls hG hC (Wd_put hN (cx_sz hC) (cx_ag hC) hP1 hD1 hS1) hL
/-! ends -/
theorem Cx_end {s0 s : State} {D : va_G} {dA : Nat → ClassId} {ad : AD} {H : Heap} {locs : List Loc} (hW : Wd_ s0 D dA ad N h H ∧ va_S (own_ s0) s.heap H locs) {P : Option PV → Nat → PH → Prop} {r : Option PV} (hp : P r N h) {args : Array Value} {t : State} (ht : t.heap = H) : Qc_ s0 D dA ad P args s (.returned (r.map (rv_ ad))) t :=
  ⟨⟨ad, r, N, h, rfl, rfl, hp, by rw [ht]; exact hW.1⟩, hW.2.F ht⟩
theorem s_ireturn {x : Int} (hd : decode M.2.1 pc = .ok (.ireturn, 1)) (hr : M.2.2.2 = some .int) (hq : Q.1 (some (0, x)) N h) : SE_ E M d bc bs Q pc L [(0, x)] N h := by
  intro l s0 D dA ad p e R s m args below meth c H locs cells slots mc ms ls hG hC hW hL
  refine W.widen (k := mc) (n := ms) (by have := (cx_bc hC); omega) (by have := (cx_bs hC); omega) (vx_ret ?_)
  exact W.iret (cx_ex hC) (cx_cb hC) ((cx_rt hC).trans hr) (fun t ht _ => Cx_end hW (r := some (0, x)) hq ht) (fun q hq => hW.2.2.2 q hq) hd (cx_lk hC)
theorem s_zreturn {x : Int} (hd : decode M.2.1 pc = .ok (.ireturn, 1)) (hr : M.2.2.2 = some .boolean) (hx : x = 0 ∨ x = 1) (hq : Q.1 (some (0, x)) N h) : SE_ E M d bc bs Q pc L [(0, x)] N h := by
  intro l s0 D dA ad p e R s m args below meth c H locs cells slots mc ms ls hG hC hW hL
  refine W.widen (k := mc) (n := ms) (by have := (cx_bc hC); omega) (by have := (cx_bs hC); omega) (vx_ret ?_)
  exact W.zret (cx_ex hC) (cx_cb hC) ((cx_rt hC).trans hr) (by rcases hx with rfl | rfl <;> rfl) (fun t ht _ => Cx_end hW (r := some (0, x)) hq ht) (fun q hq => hW.2.2.2 q hq) hd (cx_lk hC)
theorem s_return (hd : decode M.2.1 pc = .ok (.return_, 1)) (hr : M.2.2.2 = none) (hq : Q.1 none N h) : SE_ E M d bc bs Q pc L [] N h := by
  intro l s0 D dA ad p e R s m args below meth c H locs cells slots mc ms ls hG hC hW hL
  refine W.widen (k := mc) (n := ms) (by have := (cx_bc hC); omega) (by have := (cx_bs hC); omega) (vx_ret ?_)
  exact W.vret (cx_ex hC) (cx_cb hC) ((cx_rt hC).trans hr) (fun t ht _ => Cx_end hW (r := none) hq ht) (fun q hq => hW.2.2.2 q hq) hd (cx_lk hC)
theorem s_areturn {x : Int} {rt : FieldType} (hd : decode M.2.1 pc = .ok (.areturn, 1)) (hr : M.2.2.2 = some rt) (hrt : (∃ n, rt = .object n) ∨ ∃ t, rt = .array t) (hq : Q.1 (some (2, x)) N h) : SE_ E M d bc bs Q pc L [(2, x)] N h := by
  intro l s0 D dA ad p e R s m args below meth c H locs cells slots mc ms ls hG hC hW hL
  refine W.widen (k := mc) (n := ms) (by have := (cx_bc hC); omega) (by have := (cx_bs hC); omega) (vx_ret ?_)
  exact W.aret (cx_ex hC) (cx_cb hC) ((cx_rt hC).trans hr) hrt (Or.inr ⟨ad.2 x, rfl⟩) (fun t ht _ => Cx_end hW (r := some (2, x)) hq ht) (fun q hq => hW.2.2.2 q hq) hd (cx_lk hC)
end RULES3
