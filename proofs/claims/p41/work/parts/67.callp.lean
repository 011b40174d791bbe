/-! calls that throw only where something is not so: what they may make is paid for only there -/
section CALLP
variable {M M' : PM} {d bc bs : Nat} {Q : PQ} {pc idx n : Nat} {L st stk as : List PV} {N : Nat} {h : PH} {y : MethodName}
theorem s_callP {a : Int} {ci : Nat} (ok : Prop) (hb : ¬ ok → 1 ≤ bc ∧ 6 ≤ bs) (hd : decode M.2.1 pc = .ok (.invokevirtual idx, 3)) (vf : VF_ M.1 idx y M' n) (hdd : d - 1 + 1 ≤ d ∧ 8 + (M'.2.2.1 + 11) + 37 * (d - 1) ≤ 37 * d) (hn : as.length = n) (hst : stk = as.reverse ++ (2, a) :: st) (hcat : pcat_ st ≤ 8) (kl : Kl_ ci) (hy : uC_ ci = y.cls) (A : isO N a ci)
    (C : ∀ (b1 b2 : Nat) (Q' : PQ), (¬ ok → 1 ≤ b1 ∧ 6 ≤ b2) → (∀ r N' h', ok → S_ M d bc bs Q (pc + 3) L (r.toList ++ st) N' h' → Q'.1 r N' h') → (∀ e N' h', ¬ ok → Q.2 e N' h' → Q'.2 e N' h') → Cl_ y M' (d - 1) b1 b2 ((2, a) :: as) N h Q') (h5 : nk5_ L = true := by rfl) (h6 : nk5_ st = true := by rfl) : S_ M d bc bs Q pc L stk N h := by
  by_cases q : ok
  · exact s_callV (d' := d - 1) (bc' := 0) (bs' := 0) hd vf hdd ⟨Nat.zero_le _, Nat.zero_le _⟩ hn hst hcat kl hy A (C 0 0 _ (fun z => absurd q z) (fun r N' h' _ z => z) (fun e N' h' z _ => absurd q z)) h5 h6
  · exact s_callV (d' := d - 1) (bc' := 1) (bs' := 6) hd vf hdd (hb q) hn hst hcat kl hy A (C 1 6 _ (fun _ => ⟨Nat.le_refl _, Nat.le_refl _⟩) (fun r N' h' z _ => absurd z q) (fun e N' h' _ z => z)) h5 h6
theorem cu_of {E : EP} {a2 : Int → Nat} {d' bc' bs' : Nat} {s0 : State} {p : Program} {R : Room} {s : State} {m : MethodId} {args : Array Value} {meth : Method} {c : Code} {cells slots mc ms : Nat} {C owner : String} {x : MethodName} (hC : Cx_ E a2 M d bc bs s0 p R s m args meth c cells slots mc ms) (vf : UF_ M.1 idx C owner x y M' n) (hdd : d' + 1 ≤ d ∧ 8 + (M'.2.2.1 + 11) + 37 * d' ≤ 37 * d) : va_CU R s args M.1 C owner idx x y M'.2.1 M'.2.2.1 M'.2.2.2 (.code y M'.2.1 M'.2.2.1 M'.2.2.2 :: TBL) { frames := d', locals := 37 * d', cells := bc', slots := bs' } bc' bs' n := by
  obtain ⟨u1, u2, u3, u4, u5, u6, u7⟩ := vf
  refine ⟨⟨rfl, rfl, Nat.le_trans hdd.1 (cx_fr hC), Nat.le_trans hdd.2 (cx_lo hC), pay_in (cx_ts hC) (fun w hw => ?_), List.mem_cons_self⟩, cx_ts hC _ u1.2.1, cx_ts hC _ u1.1, u7, by rw [← u6.2]; exact u1.2.2.2, cx_ts hC _ u2, cx_ts hC _ u3, by rw [← u6.1]; exact va_Decl.of (cx_ts hC _ u5) (cx_ts hC _ u1.2.1), cx_ts hC _ u4, cx_ts hC _ u5⟩
  rcases List.mem_cons.mp hw with rfl | hw
  · exact ⟨u1.2.1, tb_good _ u1.2.1⟩
  · exact ⟨hw, tb_good _ hw⟩
/-- an inherited method of a word -/
theorem e_callKU {E : EP} {a : Int} {d' bc' bs' : Nat} {C owner : String} {x : MethodName} (hE : nh_ E) (hK : ∀ (A : Nat → Prop) (U : State) (H : Heap) (a2 : Int → Nat), Kx_ A U H a2 → va_O C (a2 a) A U H) (hd : decode M.2.1 pc = .ok (.invokevirtual idx, 3)) (vf : UF_ M.1 idx C owner x y M' n) (hdd : d' + 1 ≤ d ∧ 8 + (M'.2.2.1 + 11) + 37 * d' ≤ 37 * d) (hb : bc' ≤ bc ∧ bs' ≤ bs) (hn : as.length = n) (hst : stk = as.reverse ++ (2, a) :: st) (hcat : pcat_ st ≤ 8)
    (K : Cl_ y M' d' bc' bs' ((2, a) :: as) N h (fun r N' h' => SE_ E M d (bc - bc') (bs - bs') Q (pc + 3) L (r.toList ++ st) N' h', Q.2)) (h5 : nk5_ L = true := by rfl) (h6 : nk5_ st = true := by rfl) : SE_ E M d bc bs Q pc L stk N h := by
  intro l s0 D dA ad p e R s m args below meth c H locs cells slots mc ms ls hG hC hW hL
  have K9 := hK _ _ _ _ (kx_at hG hC)
  obtain ⟨cell, k1, k2, k3, k4⟩ := K9
  have hlt : ad.2 a < s.heap.size := (Array.getElem?_eq_some_iff.mp k1).1
  have cw : va_CU R s args M.1 C owner idx x y M'.2.1 M'.2.2.1 M'.2.2.2 (.code y M'.2.1 M'.2.2.1 M'.2.2.2 :: TBL) { frames := d', locals := 37 * d', cells := bc', slots := bs' } bc' bs' n := cu_of hC vf hdd
  have hr := vx_runU (As := as.map (rv_ ad)) (rest := st.map (rv_ ad)) (b := ad.2 a) (g := F0 m pc ls (stk.map (rv_ ad))) (H := H) (locs := locs) (below := below) (meth := meth) (cells := cells) (slots := slots) (e := e) ⟨cx_ex hC, cx_cb hC, cx_ml hC, cx_own hC, cx_ts hC⟩ (K l s0 D dA ad hG) cw
    ⟨pc_bl, ⟨cell, by rw [hW.2.2.1 _ hlt k4]; exact k1, k2, k3⟩, fun U hU hW' => ⟨rfl, cx_in hC hW', by rw [hU]; exact hW.1⟩⟩ rfl (by rw [List.length_map]; exact hn) hL.1 (by subst hst; simp [rv_]) (lv_room (by rw [pcat_eq]; exact hcat)) hd (cx_f hC hb)
  exact s_back hE hr hG hC hW.2 hL hb h5 h6 (fun _ _ _ z => z) (fun _ _ _ z => z)
/-- two words are one just where their numbers are -/
theorem s_wcmp_ne {i j : Nat} {x z off : Int} {tgt : Nat} (hd : decode M.2.1 pc = .ok (.if_acmp .ne off, 3)) (ht : (pc : Int) + off = (tgt : Int)) (hi : i < 24) (hj : j < 24) (hx : x = 1200 + i) (hz : z = 1200 + j) (kt : ¬ i = j → S_ M d bc bs Q tgt L st N h) (kf : i = j → S_ M d bc bs Q (pc + 3) L st N h) : S_ M d bc bs Q pc L ((2, z) :: (2, x) :: st) N h := by
  subst hx
  subst hz
  intro l s0 D dA ad p e R s m args below meth c H locs cells slots mc ms ls hG hC hW hL
  have K := (kx_at hG hC).2.2.1
  refine lv_acmp_ne (rx := some (ad.2 (1200 + i))) (ry := some (ad.2 (1200 + j))) (cx_ex hC) (cx_cb hC) hd ht (fun a => kt (fun q => a (by rw [q])) l s0 D dA ad p e R s m args below meth c H locs cells slots mc ms ls hG hC hW hL) (fun a => kf ?_ l s0 D dA ad p e R s m args below meth c H locs cells slots mc ms ls hG hC hW hL)
  have e := Option.some.inj a
  obtain ⟨c1, k1, i1, f1, l1, a1, a2, a3, a4, a5, a6⟩ := (K i hi).2.1
  obtain ⟨c2, k2, i2, f2, l2, b1, b2, b3, b4, b5, b6⟩ := (K j hj).2.1
  rw [a1] at b1
  have q1 := Option.some.inj b1
  rw [e, b3] at a3
  have q2 := Option.some.inj a3
  have q3 : f1 = f2 := by
    have := congrArg (fun w => w.2.2.2) q1
    exact this
  rw [← q2, q3, b5] at a5
  have q4 : Int32.ofInt (j : Int) = Int32.ofInt (i : Int) := by
    have := Option.some.inj a5
    injection this
  have q5 := (pI_eq (x := (j : Int)) (y := (i : Int)) ⟨by omega, by omega⟩ ⟨by omega, by omega⟩).mp q4
  omega
end CALLP
