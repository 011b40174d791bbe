/-! a truth stored keeps its lowest bit -/
theorem nar_z2 (v : Int) : vp_nar .boolean (Int32.ofInt v) = Int32.ofInt (v % 2) := by
  show Int32.ofInt v &&& 1 = _
  rw [show (1 : Int32) = Int32.ofInt 1 from rfl, pk_and (Int32.ofInt v) 1 (by decide), nI_ofI, bv_mod v 1 (by decide)]
  rfl
theorem s_bastoreZ {E : EP} {M : PM} {d bc bs : Nat} {Q : PQ} {pc : Nat} {L st : List PV} {N : Nat} {h : PH} {a i v : Int} {n : Nat} (hd : decode M.2.1 pc = .ok (.bastore, 1)) (A : isA N a 2 n) (h0 : 0 ≤ i) (h1 : i < n) (kk : SE_ E M d bc bs Q (pc + 1) L st N (hs_ h a i (v % 2))) (hN : ¬ N < 225 := by decide) : SE_ E M d bc bs Q pc L ((0, v) :: (0, i) :: (2, a) :: st) N h := by
  intro l s0 D dA ad p e R s m args below meth c H locs cells slots mc ms ls hG hC hW hL
  obtain ⟨⟨⟨hP, hD⟩, hb1, hb2, hb3⟩, hS⟩ := id hW
  have hi : i < 2147483648 := by have := A.2.2.2; omega
  refine va_zast (cx_ex hC) (cx_cb hC) (Gl_K hG (cx_al hC)) hP hD hS a.toNat 2 (wl_arr A) rfl (pI_in h0 h1 (by have := A.2.2.2; omega)) hd ?_
  intro H1 locs1 hP1 hD1 hS1
  have e1 : (wl_ ad dA N h).set a.toNat (ad.2 a, .inl (dA 2, n, .inl (upd (fun k => Int32.ofInt (h a k)) (Int32.ofInt i).toNatClampNeg (vp_nar .boolean (Int32.ofInt v))))) = wl_ ad dA N (hs_ h a i (v % 2)) := by
    rw [nar_z2, upd_hs h0 hi]
    have e2 := wl_set (ad := ad) (dA := dA) (h := h) (k := i) (v := v % 2) A.2.1 (isA_ne (by decide) A)
    rw [toN_ A.1, A.2.2.1] at e2
    exact e2
  rw [e1] at hP1 hD1
  exact kk l s0 D dA ad p e R s m args below meth c H1 locs1 cells slots mc ms ls hG hC (Wd_put hN (cx_sz hC) (cx_ag hC) hP1 hD1 hS1) hL
