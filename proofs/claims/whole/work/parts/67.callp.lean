/-! calls that throw only where something is not so: what they may make is paid for only there -/
section CALLP
variable {M M' : PM} {d bc bs : Nat} {Q : PQ} {pc idx n : Nat} {L st stk as : List PV} {N : Nat} {h : PH} {y : MethodName}
theorem s_callP {a : Int} {ci : Nat} (ok : Prop) (hb : ¬ ok → 1 ≤ bc ∧ 6 ≤ bs) (hd : decode M.2.1 pc = .ok (.invokevirtual idx, 3)) (vf : VF_ M.1 idx y M' n) (hdd : d - 1 + 1 ≤ d ∧ 8 + (M'.2.2.1 + 11) + 60 * (d - 1) ≤ 60 * d) (hn : as.length = n) (hst : stk = as.reverse ++ (2, a) :: st) (hcat : pcat_ st ≤ 8) (kl : Kl_ ci) (hy : uC_ ci = y.cls) (A : isO N a ci)
    (C : ∀ (b1 b2 : Nat) (Q' : PQ), (¬ ok → 1 ≤ b1 ∧ 6 ≤ b2) → (∀ r N' h', ok → S_ M d bc bs Q (pc + 3) L (r.toList ++ st) N' h' → Q'.1 r N' h') → (∀ e N' h', ¬ ok → Q.2 e N' h' → Q'.2 e N' h') → Cl_ y M' (d - 1) b1 b2 ((2, a) :: as) N h Q') (h5 : nk5_ L = true := by rfl) (h6 : nk5_ st = true := by rfl) : S_ M d bc bs Q pc L stk N h := by
  by_cases q : ok
  · exact s_callV (d' := d - 1) (bc' := 0) (bs' := 0) hd vf hdd ⟨Nat.zero_le _, Nat.zero_le _⟩ hn hst hcat kl hy A (C 0 0 _ (fun z => absurd q z) (fun r N' h' _ z => z) (fun e N' h' z _ => absurd q z)) h5 h6
  · exact s_callV (d' := d - 1) (bc' := 1) (bs' := 6) hd vf hdd (hb q) hn hst hcat kl hy A (C 1 6 _ (fun _ => ⟨Nat.le_refl _, Nat.le_refl _⟩) (fun r N' h' z _ => absurd z q) (fun e N' h' _ z => z)) h5 h6
/-- an inherited method of a word -/
theorem e_callKU {E : EP} {a : Int} {d' bc' bs' : Nat} {C owner : String} {x : MethodName} (hE : nh_ E) (hK : ∀ (A : Nat → Prop) (U : State) (H : Heap) (a2 : Int → Nat), Kx_ A U H a2 → va_O C (a2 a) A U H) (hd : decode M.2.1 pc = .ok (.invokevirtual idx, 3)) (vf : UF_ M.1 idx C owner x y M' n) (hdd : d' + 1 ≤ d ∧ 8 + (M'.2.2.1 + 11) + 60 * d' ≤ 60 * d) (hb : bc' ≤ bc ∧ bs' ≤ bs) (hn : as.length = n) (hst : stk = as.reverse ++ (2, a) :: st) (hcat : pcat_ st ≤ 8)
    (K : Cl_ y M' d' bc' bs' ((2, a) :: as) N h (fun r N' h' => SE_ E M d (bc - bc') (bs - bs') Q (pc + 3) L (r.toList ++ st) N' h', Q.2)) (h5 : nk5_ L = true := by rfl) (h6 : nk5_ st = true := by rfl) : SE_ E M d bc bs Q pc L stk N h := by
  intro l s0 D dA ad p e R s m args below meth c H locs cells slots mc ms ls hG hC hW hL
  have K9 := hK _ _ _ _ (kx_at hG hC)
  obtain ⟨cell, k1, k2, k3, k4⟩ := K9
  have hlt : ad.2 a < s.heap.size := (Array.getElem?_eq_some_iff.mp k1).1
  have hr := vx_runU (x := x) (As := as.map (rv_ ad)) (rest := st.map (rv_ ad)) (b := ad.2 a) (C := C) (g := F0 m pc ls (stk.map (rv_ ad))) (H := H) (locs := locs) (below := below) (meth := meth) (cells := cells) (slots := slots) (e := e) ⟨cx_ex hC, cx_cb hC, cx_ml hC, cx_own hC, cx_ts hC⟩ (K l s0 D dA ad hG)
  exact hr
end CALLP
