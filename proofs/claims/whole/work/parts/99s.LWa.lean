/-! methods that catch; the script -/
/-- a place's local is no longer known -/
theorem as_set9 {ad : AD} {ls : Array Slot} {n i : Nat} {L : List PV} {x : Value} (hb : Nat.beq (L.getD (i - 1) (0, 0)).1 1 = false) (h : lv_has ls n ((i, x) :: (as_ ad 0 L).filter (fun q => !(q.1 == i) && !(q.1 + 1 == i && q.2.category == 2)))) : lv_has ls n (as_ ad 0 (L.set i (9, 0))) := by
  refine ⟨h.1, h.2.1, fun q hq => h.2.2 q ?_⟩
  obtain ⟨j, w, h1, h2, rfl⟩ := (as_mem ad q _ 0).mp hq
  rw [Nat.zero_add] at *
  by_cases e : j = i
  · subst e
    have hl : j < L.length := by
      have := (List.getElem?_eq_some_iff.mp h1).1
      simpa using this
    rw [List.getElem?_set_self hl] at h1
    cases h1
    exact absurd rfl h2
  · rw [List.getElem?_set_ne (fun z => e z.symm)] at h1
    refine List.mem_cons_of_mem _ (List.mem_filter.mpr ⟨(as_mem ad _ L 0).mpr ⟨j, w, h1, h2, by rw [Nat.zero_add]⟩, ?_⟩)
    have e1 : (j == i) = false := by simpa using e
    simp only [e1, Bool.not_false, Bool.true_and, Bool.not_eq_true', Bool.and_eq_false_iff]
    by_cases e2 : j + 1 = i
    · right
      have hj : i - 1 = j := by omega
      rw [hj, List.getD_eq_getElem?_getD, h1, Option.getD_some] at hb
      have hb' : w.1 ≠ 1 := fun z => by rw [z] at hb; cases hb
      rw [rv_cat, if_neg hb']
      rfl
    · left
      simpa using e2
/-- what a method's table of handlers is -/
abbrev EHH_ (hh : List (Nat × Nat × Nat × Nat)) : EP := fun _ _ _ c => c.exceptionTable.toList.map (fun x => (x.startPc, x.endPc, x.handlerPc, x.catchType)) = hh
theorem s_enterH {y : MethodName} {M : PM} {hh : List (Nat × Nat × Nat × Nat)} {d bc bs : Nat} {as L : List PV} {N : Nat} {h : PH} {Q : PQ} (hp : plainName y.cls = true) (hc : y.cls = M.1) (hn : (en_ as).length ≤ M.2.2.1) (hL : en_ as ++ List.replicate (M.2.2.1 - (en_ as).length) (9, 0) = L)
    (k : SE_ (EHH_ hh) M d bc bs Q 0 L [] N h) : CW_ (.codeWith y M.2.1 M.2.2.1 M.2.2.2 hh) y d bc bs as N h Q := by
  intro l s0 D dA ad hG
  refine vx_ofWH hp rfl ?_
  intro p e s m args below meth c s₁ B hml hpc
  refine s_body hc hn hL k hG B hml ?_ hpc
  obtain ⟨m9, meth9, c9, hn9, h1, h2, -, -, h5, -⟩ := Cond.codeWith_spec (atoms_spec (ws := .codeWith y M.2.1 M.2.2.1 M.2.2.2 hh :: TBL) B.pre _ List.mem_cons_self)
  cases B.named.symm.trans hn9
  cases B.method.symm.trans h1
  have hc9 : c9 = c := by
    have h9 := B.here.code
    rw [B.state] at h9
    rw [State.code?_eq] at h9
    have h8 : meth.code = some c := by
      have e7 : s.vm.method? m = some meth := B.method
      have h7 : ((s.vm.method? m).bind fun x => x.code) = some c := by simpa using h9
      rw [e7] at h7
      exact h7
    exact Option.some.inj (h2.symm.trans h8)
  subst hc9
  exact h5
/-- where an exception of this class goes from pc -/
def hx_ (own : String) (hh : List (Nat × Nat × Nat × Nat)) (pc : Nat) (E9 : String) (tgt : Nat) : Prop :=
  ∃ (pre : List (Nat × Nat × Nat × Nat)) (x : Nat × Nat × Nat × Nat) (suf : List (Nat × Nat × Nat × Nat)) (name : String), hh = pre ++ x :: suf ∧ (∀ z ∈ pre, z.2.2.2 ≠ 0 ∧ ∃ nm : String, Cond.classLink own z.2.2.2 nm ∈ TBL ∧ (E9, nm) ∈ kxn_) ∧ x.1 ≤ pc ∧ pc < x.2.1 ∧ x.2.2.2 ≠ 0 ∧ Cond.classLink own x.2.2.2 name ∈ TBL ∧ Cond.castable E9 name ∈ kxw_ ∧ x.2.2.1 = tgt
theorem map_split {α β : Type} (f : α → β) : ∀ (l : List α) (pre : List β) (x : β) (suf : List β), l.map f = pre ++ x :: suf → ∃ (p1 : List α) (x1 : α) (s1 : List α), l = p1 ++ x1 :: s1 ∧ p1.map f = pre ∧ f x1 = x ∧ s1.map f = suf
  | [], [], _, _, h => by cases h
  | [], _ :: _, _, _, h => by cases h
  | a :: l, [], x, suf, h => by
    rw [List.map_cons, List.nil_append] at h
    injection h with h1 h2
    exact ⟨[], a, l, rfl, rfl, h1, h2⟩
  | a :: l, b :: pre, x, suf, h => by
    rw [List.map_cons, List.cons_append] at h
    injection h with h1 h2
    obtain ⟨p1, x1, s1, e1, e2, e3, e4⟩ := map_split f l pre x suf h2
    exact ⟨a :: p1, x1, s1, by rw [e1]; rfl, by rw [List.map_cons, h1, e2], e3, e4⟩
section HND
variable {M M' : PM} {hh : List (Nat × Nat × Nat × Nat)} {d d' bc bs bc' bs' : Nat} {Q : PQ} {pc idx n : Nat} {L st stk as : List PV} {N : Nat} {h : PH} {y : MethodName}
/-- a method of an object is called; what it throws is caught, and laid into a local -/
theorem e_callVH {a : Int} {ci : Nat} {EX : String → Nat → PH → Prop} (hd : decode M.2.1 pc = .ok (.invokevirtual idx, 3)) (vf : VF_ M.1 idx y M' n) (hdd : d' + 1 ≤ d ∧ 8 + (M'.2.2.1 + 11) + 60 * d' ≤ 60 * d) (hb : bc' ≤ bc ∧ bs' ≤ bs) (hn : as.length = n) (hst : stk = as.reverse ++ (2, a) :: st) (hcat : pcat_ st ≤ 8) (kl : Kl_ ci) (hy : uC_ ci = y.cls) (A : isO N a ci)
    (C : Cl_ y M' d' bc' bs' ((2, a) :: as) N h (fun r N' h' => SE_ (EHH_ hh) M d (bc - bc') (bs - bs') Q (pc + 3) L (r.toList ++ st) N' h', EX))
    (kx : ∀ (E9 : String) (N' : Nat) (h' : PH), EX E9 N' h' → ∃ (tgt j w : Nat), hx_ M.1 hh pc E9 tgt ∧ ((∃ k : Fin 4, (k : Nat) = j ∧ w = 1 ∧ decode M.2.1 tgt = .ok (.astore_n k, 1)) ∨ (w = 2 ∧ decode M.2.1 tgt = .ok (.astore j, 2))) ∧ j < M.2.2.1 ∧ Nat.beq (L.getD (j - 1) (0, 0)).1 1 = false ∧ SE_ (EHH_ hh) M d (bc - bc') (bs - bs') Q (tgt + w) (L.set j (9, 0)) [] N' h')
    (h5 : nk5_ L = true := by rfl) (h6 : nk5_ st = true := by rfl) : SE_ (EHH_ hh) M d bc bs Q pc L stk N h := by
  intro l s0 D dA ad p e R s m args below meth c H locs cells slots mc ms ls hG hC hW hL
  refine s_backE (s_runV hG hC hW hL hd vf hdd hb hn hst hcat kl hy A C) hG hC hW.2 hL hb h5 h6 (fun _ _ _ z => z) ?_
  intro E9 N' h' ad' H' locs' q ce ea hp hWd hC' hL' hce hcv hcl
  obtain ⟨tgt, j, w, ⟨pre, x, suf, name, e1, e2, e3, e4, e5, e6, e7, e8⟩, dj, hj, hbq, k9⟩ := kx E9 N' h' hp
  have hT := cx_e hC'
  obtain ⟨p1, x1, s1, f1, f2, f3, f4⟩ := map_split _ _ _ _ _ (hT.trans e1)
  have K := kx_at (by rw [ea]; exact hG) hC'
  have g1 : x1.startPc = x.1 := congrArg (fun z => z.1) f3
  have g2 : x1.endPc = x.2.1 := congrArg (fun z => z.2.1) f3
  have g3 : x1.handlerPc = x.2.2.1 := congrArg (fun z => z.2.2.1) f3
  have g4 : x1.catchType = x.2.2.2 := congrArg (fun z => z.2.2.2) f3
  have hpass : ∀ z ∈ p1, covers z pc = false ∨ (z.catchType ≠ 0 ∧ ∃ nm : String, (Cond.classLink M.1 z.catchType nm).before args s = true ∧ va_Nc E9 nm s) := fun z hz => by
    obtain ⟨a1, nm, a2, a3⟩ := e2 _ (f2 ▸ List.mem_map_of_mem (f := fun x : ExceptionTableEntry => (x.startPc, x.endPc, x.handlerPc, x.catchType)) hz)
    exact Or.inr ⟨a1, nm, cx_ts hC' _ a2, K.2.2.2.2.2.2.2.2.2.2.2.2.2.2.1 _ a3⟩
  refine vx_catch (name := name) (cx_own hC') p1 x1 s1 f1 hpass (by simp [g1, g2, e3, e4]) (by rw [g4]; exact e5) (by rw [g4]; exact cx_ts hC' _ e6) (kxw_use e7 (K.2.2.2.2.2.2.2.2.2.2.2.2.2.1 _ e7)) hce hcv hcl ?_
  rw [g3, e8]
  have fin : ∀ ls' : Array Slot, lv_has ls' M.2.2.1 ((j, Value.ref q) :: (as_ ad' 0 L).filter (fun q => !(q.1 == j) && !(q.1 + 1 == j && q.2.category == 2))) → W p l e R s m args below meth c H' locs' (cells + bc') (slots + bs') (vx_MQ below (Qc_ s0 D dA ad Q.1) (XC_ s0 D dA ad Q.2) args s mc ms (own_ s0)) (F0 m (tgt + w) ls' []) := fun ls' h9 => by
    have k8 := k9 l s0 D dA ad' p e R s m args below meth c H' locs' (cells + bc') (slots + bs') mc ms ls' (by rw [ea]; exact hG) hC' hWd (as_set9 hbq h9)
    have q1 : Qc_ s0 D dA ad' Q.1 = Qc_ s0 D dA ad Q.1 := by unfold Qc_; rw [ea]
    have q2 : XC_ s0 D dA ad' Q.2 = XC_ s0 D dA ad Q.2 := by unfold XC_; rw [ea]
    rw [q1, q2] at k8
    exact k8
  rcases dj with ⟨k, ek, ew, dk⟩ | ⟨ew, dk⟩
  · subst ew
    exact lv_astore_n (cx_ex hC') (cx_cb hC') dk ek hL' hj rfl fin
  · subst ew
    exact lv_astore (cx_ex hC') (cx_cb hC') dk hL' hj rfl fin
/-- what the tables say of a static method that catches -/
def SX_ (own : String) (idx : Nat) (y : MethodName) (M' : PM) (hh : List (Nat × Nat × Nat × Nat)) (n : Nat) : Prop := Cond.initialized y.cls ∈ TBL ∧ Cond.codeWith y M'.2.1 M'.2.2.1 M'.2.2.2 hh ∈ TBL ∧ (y.cls ≠ "java/lang/invoke/MethodHandle" ∧ y.cls ≠ "java/lang/invoke/VarHandle") ∧ (∀ sig, parseMethodDescriptor y.desc = some sig → n = sig.parameters.length) ∧ Cond.methodLink own idx y ∈ TBL ∧ Cond.static y ∈ TBL
theorem e_callSX {E : EP} (hE : nh_ E) (hd : decode M.2.1 pc = .ok (.invokestatic idx, 3)) (sf : SX_ M.1 idx y M' hh n) (hdd : d' + 1 ≤ d ∧ 8 + (M'.2.2.1 + 11) + 60 * d' ≤ 60 * d) (hb : bc' ≤ bc ∧ bs' ≤ bs) (hn : as.length = n) (hst : stk = as.reverse ++ st) (hcat : pcat_ st ≤ 8)
    (C : CW_ (.codeWith y M'.2.1 M'.2.2.1 M'.2.2.2 hh) y d' bc' bs' as N h (fun r N' h' => SE_ E M d (bc - bc') (bs - bs') Q (pc + 3) L (r.toList ++ st) N' h', Q.2)) (h5 : nk5_ L = true := by rfl) (h6 : nk5_ st = true := by rfl) : SE_ E M d bc bs Q pc L stk N h := by
  intro l s0 D dA ad p e R s m args below meth c H locs cells slots mc ms ls hG hC hW hL
  have cw : vx_CSW R s args M.1 idx y M'.2.1 M'.2.2.1 M'.2.2.2 hh (.codeWith y M'.2.1 M'.2.2.1 M'.2.2.2 hh :: TBL) { frames := d', locals := 60 * d', cells := bc', slots := bs' } bc' bs' n := by
    refine ⟨⟨rfl, rfl, Nat.le_trans hdd.1 (cx_fr hC), Nat.le_trans hdd.2 (cx_lo hC), pay_in (cx_ts hC) (fun w hw => ?_), List.mem_cons_self⟩, cx_ts hC _ sf.2.1, cx_ts hC _ sf.1, sf.2.2.1, sf.2.2.2.1, cx_ts hC _ sf.2.2.2.2.1, cx_ts hC _ sf.2.2.2.2.2⟩
    rcases List.mem_cons.mp hw with rfl | hw
    · exact ⟨sf.2.1, tb_good _ sf.2.1⟩
    · exact ⟨hw, tb_good _ hw⟩
  have hr := vx_runSX (As := as.map (rv_ ad)) (rest := st.map (rv_ ad)) (g := F0 m pc ls (stk.map (rv_ ad))) (H := H) (locs := locs) (below := below) (meth := meth) (cells := cells) (slots := slots) (e := e) ⟨cx_ex hC, cx_cb hC, cx_ml hC, cx_own hC, cx_ts hC⟩ (C l s0 D dA ad hG) cw
    ⟨pc_bl, fun U hU hW' => ⟨rfl, cx_in hC hW', by rw [hU]; exact hW.1⟩⟩ rfl (by rw [List.length_map]; exact hn) hL.1 (by subst hst; simp) (lv_room (by rw [pcat_eq]; exact hcat)) hd (cx_f hC hb)
  exact s_back hE hr hG hC hW.2 hL hb h5 h6 (fun _ _ _ z => z) (fun _ _ _ z => z)
end HND
/-! the law's own frame: the script of len ints at a place of its own -/
abbrev EL_ (b len : Nat) (xs : Nat → Int32) : EP := fun s0 a2 _ _ => Gi_ s0 ∧ va_X b len xs s0 s0.heap ∧ b < s0.heap.size ∧ a2 1399 = b
theorem eg_L {b len : Nat} {xs : Nat → Int32} : ∀ s0 a2 meth c, EL_ b len xs s0 a2 meth c → Gi_ s0 := fun _ _ _ _ h => h.1
def xz_ (xs : Nat → Int32) (i : Int) : Int := (xs i.toNat).toInt
theorem xz_in (xs : Nat → Int32) (i : Int) : inI (xz_ xs i) := ⟨by have := (xs i.toNat).le_toInt; unfold xz_; omega, by have := (xs i.toNat).toInt_lt; unfold xz_; omega⟩
section SCR
variable {b len : Nat} {xs : Nat → Int32} {M : PM} {d bc bs : Nat} {Q : PQ} {pc : Nat} {L st : List PV} {N : Nat} {h : PH}
theorem scr_at {l : Launch} {s0 s : State} {D : va_G} {dA : Nat → ClassId} {ad : AD} {p : Program} {R : Room} {m : MethodId} {args : Array Value} {meth : Method} {c : Code} {cells slots mc ms : Nat} (hC : Cx_ (EL_ b len xs) ad.2 M d bc bs s0 p R s m args meth c cells slots mc ms) : va_X b len xs s s.heap ∧ b < s.heap.size ∧ ¬ own_ s0 b ∧ ad.2 1399 = b := by
  obtain ⟨-, x1, x2, x3⟩ := cx_e hC
  exact ⟨(x1.kept (cx_ag hC b x2)).moved (cx_al hC), Nat.lt_of_lt_of_le x2 (cx_sz hC), Nat.not_le.mpr x2, x3⟩
theorem s_slen (hd : decode M.2.1 pc = .ok (.arraylength, 1)) (k : SE_ (EL_ b len xs) M d bc bs Q (pc + 1) L ((0, (len : Int)) :: st) N h) : SE_ (EL_ b len xs) M d bc bs Q pc L ((2, 1399) :: st) N h := by
  intro l s0 D dA ad p e R s m args below meth c H locs cells slots mc ms ls hG hC hW hL
  obtain ⟨x1, x2, x3, x4⟩ := scr_at (l := l) (D := D) (dA := dA) hC
  show W p l e R s m args below meth c H locs cells slots _ (F0 m pc ls (Value.ref (ad.2 1399) :: st.map (rv_ ad)))
  rw [x4]
  refine va_slen (cx_ex hC) (cx_cb hC) x1 x2 x3 hW.2 hd ?_
  exact k l s0 D dA ad p e R s m args below meth c H locs cells slots mc ms ls hG hC hW hL
theorem s_sld {i : Int} (hd : decode M.2.1 pc = .ok (.iaload, 1)) (h0 : 0 ≤ i) (h1 : i < len) (hl : len ≤ 3072) (k : SE_ (EL_ b len xs) M d bc bs Q (pc + 1) L ((0, xz_ xs i) :: st) N h) : SE_ (EL_ b len xs) M d bc bs Q pc L ((0, i) :: (2, 1399) :: st) N h := by
  intro l s0 D dA ad p e R s m args below meth c H locs cells slots mc ms ls hG hC hW hL
  obtain ⟨x1, x2, x3, x4⟩ := scr_at (l := l) (D := D) (dA := dA) hC
  show W p l e R s m args below meth c H locs cells slots _ (F0 m pc ls (Value.int (Int32.ofInt i) :: Value.ref (ad.2 1399) :: st.map (rv_ ad)))
  rw [x4]
  refine va_sld (cx_ex hC) (cx_cb hC) x1 x2 x3 hW.2 (pI_in h0 h1 (by omega)) hd ?_
  rw [pI_cl h0 (by omega)]
  have k9 := k l s0 D dA ad p e R s m args below meth c H locs cells slots mc ms ls hG hC hW hL
  have e9 : rv_ ad (0, xz_ xs i) = .int (xs i.toNat) := by
    show Value.int (Int32.ofInt (xs i.toNat).toInt) = _
    rw [Int32.ofInt_toInt]
  rw [List.map_cons, e9] at k9
  exact k9
end SCR
