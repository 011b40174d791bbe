/-! calls -/
/-- how many places these values take on the operand stack -/
def pcat_ : List PV → Nat
  | [] => 0
  | v :: t => (if Nat.beq v.1 1 then 2 else 1) + pcat_ t
theorem pcat_eq (ad : AD) : ∀ st : List PV, ((st.map (rv_ ad)).map fun v => v.category).sum = pcat_ st
  | [] => rfl
  | v :: t => by
    simp only [List.map_cons, List.sum_cons, rv_cat, pcat_, pcat_eq ad t]
    by_cases e : v.1 = 1
    · simp [e]
    · have : Nat.beq v.1 1 = false := by
        cases hb : Nat.beq v.1 1 with
        | false => rfl
        | true => exact absurd (Nat.eq_of_beq_eq_true hb) e
      simp [e, this]
theorem as_same {ad ad' : AD} (e : ad'.2 = ad.2) : ∀ {L : List PV} (k : Nat), nk5_ L = true → as_ ad' k L = as_ ad k L
  | [], _, _ => rfl
  | v :: t, k, h => by
    have h1 := List.all_eq_true.mp h v List.mem_cons_self
    have h2 : nk5_ t = true := List.all_eq_true.mpr fun x hx => List.all_eq_true.mp h x (List.mem_cons_of_mem _ hx)
    rw [as_, as_, as_same e (k + 1) h2, rv_same e (by simpa using h1)]
section CALLS
variable {E : EP} {M M' : PM} {d d' bc bs bc' bs' : Nat} {Q : PQ} {pc idx n : Nat} {L st stk as : List PV} {N : Nat} {h : PH} {y : MethodName} {w : Cond}
/-- no handler, by what a method says of itself -/
def nh_ (E : EP) : Prop := ∀ (s0 : State) (a2 : Int → Nat) (meth : Method) (c : Code), E s0 a2 meth c → ∀ x ∈ c.exceptionTable.toList, False
theorem nh_0 : nh_ E0_ := fun _ _ _ _ h => h
theorem nh_1 : nh_ E1_ := fun _ _ _ _ h => h.1
/-- behind a call: where it returned, the rest; where it threw, what this method does then -/
theorem s_backE {l : Launch} {s0 : State} {D : va_G} {dA : Nat → ClassId} {ad : AD} {p : Program} {e : Env} {R : Room} {s : State} {m : MethodId} {args a' : Array Value} {below : List Frame} {meth : Method} {c : Code} {H : Heap} {locs : List Loc} {cells slots mc ms : Nat} {ls : Array Slot} {st0 : List Value} {P : Option PV → Nat → PH → Prop} {PX : String → Nat → PH → Prop}
    (hr : vx_Run p l e R s m args below meth c H locs cells slots bc' bs' (F0 m pc ls st0) (st.map (rv_ ad)) (Qc_ s0 D dA ad P a') (XC_ s0 D dA ad PX) (own_ s0)) (hG : Gl_ l s0 D dA ad.2) (hC : Cx_ E ad.2 M d bc bs s0 p R s m args meth c cells slots mc ms) (hS : va_S (own_ s0) s.heap H locs) (hL : lv_has ls M.2.2.1 (as_ ad 0 L)) (hb : bc' ≤ bc ∧ bs' ≤ bs) (h5 : nk5_ L = true) (h6 : nk5_ st = true)
    (kk : ∀ r N' h', P r N' h' → SE_ E M d (bc - bc') (bs - bs') Q (pc + 3) L (r.toList ++ st) N' h')
    (kx : ∀ (E9 : String) (N' : Nat) (h' : PH) (ad' : AD) (H' : Heap) (locs' : List Loc) (q : Addr) (ce : Cell), ad'.2 = ad.2 → PX E9 N' h' → Wd_ s0 D dA ad' N' h' H' ∧ va_S (own_ s0) s.heap H' locs' → Cx_ E ad'.2 M d (bc - bc') (bs - bs') s0 p R s m args meth c (cells + bc') (slots + bs') mc ms → lv_has ls M.2.2.1 (as_ ad' 0 L) → H'[q]? = some ce → ce.vm = .none → s.vm.findClass E9 = some ce.cls →
      vx_W p l e R s m args below meth c H' locs' (cells + bc') (slots + bs') (vx_MQ below (Qc_ s0 D dA ad Q.1) (XC_ s0 D dA ad Q.2) args s mc ms (own_ s0)) (F0 m pc ls (st.map (rv_ ad))) q) :
    W p l e R s m args below meth c H locs cells slots (vx_MQ below (Qc_ s0 D dA ad Q.1) (XC_ s0 D dA ad Q.2) args s mc ms (own_ s0)) (F0 m pc ls st0) := by
  have hC' : Cx_ E ad.2 M d (bc - bc') (bs - bs') s0 p R s m args meth c (cells + bc') (slots + bs') mc ms := by
    obtain ⟨q1, q2, q3, q4, q5, q6, q7, q8, q9, q10, q11, q12, q13, q14, q15⟩ := hC
    exact ⟨q1, q2, q3, q4, q5, q6, q7, q8, q9, q10, q11, q12, by omega, by omega, q15⟩
  intro T hT X
  rcases hr T hT X with ⟨v, st₀, t, T', Lx, h0, X', hLx, e1, e2, ⟨⟨ad', r, N', h', ea, hv, hp, hWd⟩, hF⟩, stp⟩ | ⟨q, st₀, t, T', Lx, E9, ce, h0, X', hLx, e1, e2, ⟨⟨ad', N', h', ea, hp, hWd⟩, hF⟩, hce, hcv, hcl, stp⟩
  · cases hv
    obtain ⟨k1, k2, k3⟩ := vx_keep h0 e1 hS (fun _ _ z => z) (fun _ z => z) hLx hF
    have k9 := kk r N' h' hp l s0 D dA ad' p e R s m args below meth c T'.heap (locs ++ Lx) (cells + bc') (slots + bs') mc ms ls (by rw [ea]; exact hG) (by rw [ea]; exact hC') ⟨by rw [e1]; exact hWd, k3⟩ (by rw [as_same ea 0 h5]; exact hL)
    have q1 : Qc_ s0 D dA ad' Q.1 = Qc_ s0 D dA ad Q.1 := by unfold Qc_; rw [ea]
    have q2 : XC_ s0 D dA ad' Q.2 = XC_ s0 D dA ad Q.2 := by unfold XC_; rw [ea]
    rw [q1, q2] at k9
    obtain ⟨t2, a1, b1⟩ := k9 T' rfl X'
    refine ⟨t2, stp t2 ?_, b1⟩
    have e9 : (r.toList ++ st).map (rv_ ad') = (r.map (rv_ ad')).toList ++ st.map (rv_ ad) := by rw [List.map_append, rv_map ea h6]; cases r <;> rfl
    rw [e9] at a1
    exact a1
  · obtain ⟨k1, k2, k3⟩ := vx_keep h0 e1 hS (fun _ _ z => z) (fun _ z => z) hLx hF
    have hx := kx E9 N' h' ad' T'.heap (locs ++ Lx) q ce ea hp ⟨by rw [e1]; exact hWd, k3⟩ (by rw [ea]; exact hC') (by rw [as_same ea 0 h5]; exact hL) (by rw [e1]; exact hce) hcv hcl
    obtain ⟨t2, a1, b1⟩ := hx T' rfl X'
    exact ⟨t2, stp.trans a1, b1⟩
theorem s_back {l : Launch} {s0 : State} {D : va_G} {dA : Nat → ClassId} {ad : AD} {p : Program} {e : Env} {R : Room} {s : State} {m : MethodId} {args a' : Array Value} {below : List Frame} {meth : Method} {c : Code} {H : Heap} {locs : List Loc} {cells slots mc ms : Nat} {ls : Array Slot} {st0 : List Value} {P : Option PV → Nat → PH → Prop} {PX : String → Nat → PH → Prop} (hE : nh_ E)
    (hr : vx_Run p l e R s m args below meth c H locs cells slots bc' bs' (F0 m pc ls st0) (st.map (rv_ ad)) (Qc_ s0 D dA ad P a') (XC_ s0 D dA ad PX) (own_ s0)) (hG : Gl_ l s0 D dA ad.2) (hC : Cx_ E ad.2 M d bc bs s0 p R s m args meth c cells slots mc ms) (hS : va_S (own_ s0) s.heap H locs) (hL : lv_has ls M.2.2.1 (as_ ad 0 L)) (hb : bc' ≤ bc ∧ bs' ≤ bs) (h5 : nk5_ L = true) (h6 : nk5_ st = true)
    (kk : ∀ r N' h', P r N' h' → SE_ E M d (bc - bc') (bs - bs') Q (pc + 3) L (r.toList ++ st) N' h') (kx : ∀ E N' h', PX E N' h' → Q.2 E N' h') :
    W p l e R s m args below meth c H locs cells slots (vx_MQ below (Qc_ s0 D dA ad Q.1) (XC_ s0 D dA ad Q.2) args s mc ms (own_ s0)) (F0 m pc ls st0) := by
  refine s_backE hr hG hC hS hL hb h5 h6 kk ?_
  intro E9 N' h' ad' H' locs' q ce ea hp hWd hC' hL' hce hcv hcl
  exact vx_out (E := E9) (ce := ce) (fun x hx => (hE _ _ _ _ (cx_e hC) x hx).elim) (cx_lk hC) hce hcv hcl (fun t9 ht9 _ => ⟨⟨ad', N', h', ea, kx E9 N' h' hp, by rw [ht9]; exact hWd.1⟩, hWd.2.F ht9⟩) (fun z hz => hWd.2.2.2 z hz) (by have := cx_bc hC; omega) (by have := cx_bs hC; omega)
theorem cf_cb {a2 : Int → Nat} {s0 : State} {p : Program} {R : Room} {s : State} {m : MethodId} {args : Array Value} {meth : Method} {c : Code} {cells slots mc ms : Nat} (hC : Cx_ E a2 M d bc bs s0 p R s m args meth c cells slots mc ms) (cf : CF_ y M' n) (hl : Cond.methodLink M.1 idx y ∈ TBL) (hd : d' + 1 ≤ d ∧ 8 + (M'.2.2.1 + 11) + 37 * d' ≤ 37 * d) :
    CallB R s args M.1 idx y M'.2.1 M'.2.2.1 M'.2.2.2 (.code y M'.2.1 M'.2.2.1 M'.2.2.2 :: TBL) { frames := d', locals := 37 * d', cells := bc', slots := bs' } bc' bs' n := by
  refine ⟨rfl, rfl, Nat.le_trans hd.1 (cx_fr hC), Nat.le_trans hd.2 (cx_lo hC), pay_in (cx_ts hC) (fun w hw => ?_), List.mem_cons_self, cx_ts hC _ cf.2.1, cx_ts hC _ cf.1, cf.2.2.1, cf.2.2.2, cx_ts hC _ hl⟩
  rcases List.mem_cons.mp hw with rfl | hw
  · exact ⟨cf.2.1, tb_good _ cf.2.1⟩
  · exact ⟨hw, tb_good _ hw⟩
theorem pc_bl {s0 : State} {D : va_G} {dA : Nat → ClassId} {ad : AD} {av : List Value} : FrameBlind (va_Pc av (fun U => s0.WarmedH U.vm ∧ Wd_ s0 D dA ad N h U.heap)) := fun _ _ _ _ q => q
theorem cx_f {a2 : Int → Nat} {s0 : State} {p : Program} {R : Room} {s : State} {m : MethodId} {args : Array Value} {meth : Method} {c : Code} {cells slots mc ms : Nat} (hC : Cx_ E a2 M d bc bs s0 p R s m args meth c cells slots mc ms) (hb : bc' ≤ bc ∧ bs' ≤ bs) : cells + bc' ≤ R.cells ∧ slots + bs' ≤ R.slots := by
  have h1 := cx_bc hC
  have h2 := cx_bs hC
  have h3 := cx_rc hC
  have h4 := cx_rs hC
  exact ⟨by omega, by omega⟩
theorem cx_in {a2 : Int → Nat} {s0 : State} {p : Program} {R : Room} {s : State} {m : MethodId} {args : Array Value} {meth : Method} {c : Code} {cells slots mc ms : Nat} (hC : Cx_ E a2 M d bc bs s0 p R s m args meth c cells slots mc ms) {vm : Vm} (hW : s.WarmedH vm) : s0.WarmedH vm := State.WarmedH.trans (cx_wm hC) hW
/-- a method of an object is called: the run of the call -/
theorem s_runV {l : Launch} {s0 : State} {D : va_G} {dA : Nat → ClassId} {ad : AD} {p : Program} {e : Env} {R : Room} {s : State} {m : MethodId} {args : Array Value} {below : List Frame} {meth : Method} {c : Code} {H : Heap} {locs : List Loc} {cells slots mc ms : Nat} {ls : Array Slot} {a : Int} {ci : Nat} {P : PQ} (hG : Gl_ l s0 D dA ad.2) (hC : Cx_ E ad.2 M d bc bs s0 p R s m args meth c cells slots mc ms) (hW : Wd_ s0 D dA ad N h H ∧ va_S (own_ s0) s.heap H locs) (hL : lv_has ls M.2.2.1 (as_ ad 0 L)) (hd : decode M.2.1 pc = .ok (.invokevirtual idx, 3)) (vf : VF_ M.1 idx y M' n) (hdd : d' + 1 ≤ d ∧ 8 + (M'.2.2.1 + 11) + 37 * d' ≤ 37 * d) (hb : bc' ≤ bc ∧ bs' ≤ bs) (hn : as.length = n) (hst : stk = as.reverse ++ (2, a) :: st) (hcat : pcat_ st ≤ 8) (kl : Kl_ ci) (hy : uC_ ci = y.cls) (A : isO N a ci)
    (C : Cl_ y M' d' bc' bs' ((2, a) :: as) N h P) : vx_Run p l e R s m args below meth c H locs cells slots bc' bs' (F0 m pc ls (stk.map (rv_ ad))) (st.map (rv_ ad)) (Qc_ s0 D dA ad P.1 (((2, a) :: as).map (rv_ ad)).toArray) (XC_ s0 D dA ad P.2) (own_ s0) := by
  obtain ⟨⟨⟨hP, hD⟩, hb1, hb2, hb3⟩, hS⟩ := id hW
  exact vx_runV (As := as.map (rv_ ad)) (rest := st.map (rv_ ad)) (b := ad.2 a) (C := y.cls) (g := F0 m pc ls (stk.map (rv_ ad))) (H := H) (locs := locs) (below := below) (meth := meth) (cells := cells) (slots := slots) (e := e) ⟨cx_ex hC, cx_cb hC, cx_ml hC, cx_own hC, cx_ts hC⟩ (C l s0 D dA ad hG) ⟨cf_cb hC vf.1 vf.2.1 hdd, cx_ts hC _ vf.2.2.1, cx_ts hC _ vf.2.2.2⟩
    ⟨pc_bl, by rw [← hy]; exact va_recv (Gl_K hG (cx_al hC)) hP kl.2.1 (wl_obj kl.1 A), fun U hU hW' => ⟨rfl, cx_in hC hW', by rw [hU]; exact hW.1⟩⟩ rfl (by rw [List.length_map]; exact hn) hL.1 (by subst hst; simp [rv_]) (lv_room (by rw [pcat_eq]; exact hcat)) hd (cx_f hC hb)
/-- .. what is owed behind it: the rest of this one -/
theorem e_callV {a : Int} {ci : Nat} (hE : nh_ E) (hd : decode M.2.1 pc = .ok (.invokevirtual idx, 3)) (vf : VF_ M.1 idx y M' n) (hdd : d' + 1 ≤ d ∧ 8 + (M'.2.2.1 + 11) + 37 * d' ≤ 37 * d) (hb : bc' ≤ bc ∧ bs' ≤ bs) (hn : as.length = n) (hst : stk = as.reverse ++ (2, a) :: st) (hcat : pcat_ st ≤ 8) (kl : Kl_ ci) (hy : uC_ ci = y.cls) (A : isO N a ci)
    (C : Cl_ y M' d' bc' bs' ((2, a) :: as) N h (fun r N' h' => SE_ E M d (bc - bc') (bs - bs') Q (pc + 3) L (r.toList ++ st) N' h', Q.2)) (h5 : nk5_ L = true := by rfl) (h6 : nk5_ st = true := by rfl) : SE_ E M d bc bs Q pc L stk N h := by
  intro l s0 D dA ad p e R s m args below meth c H locs cells slots mc ms ls hG hC hW hL
  exact s_back hE (s_runV hG hC hW hL hd vf hdd hb hn hst hcat kl hy A C) hG hC hW.2 hL hb h5 h6 (fun _ _ _ z => z) (fun _ _ _ z => z)
theorem s_callV {a : Int} {ci : Nat} (hd : decode M.2.1 pc = .ok (.invokevirtual idx, 3)) (vf : VF_ M.1 idx y M' n) (hdd : d' + 1 ≤ d ∧ 8 + (M'.2.2.1 + 11) + 37 * d' ≤ 37 * d) (hb : bc' ≤ bc ∧ bs' ≤ bs) (hn : as.length = n) (hst : stk = as.reverse ++ (2, a) :: st) (hcat : pcat_ st ≤ 8) (kl : Kl_ ci) (hy : uC_ ci = y.cls) (A : isO N a ci)
    (C : Cl_ y M' d' bc' bs' ((2, a) :: as) N h (fun r N' h' => S_ M d (bc - bc') (bs - bs') Q (pc + 3) L (r.toList ++ st) N' h', Q.2)) (h5 : nk5_ L = true := by rfl) (h6 : nk5_ st = true := by rfl) : S_ M d bc bs Q pc L stk N h :=
  e_callV nh_0 hd vf hdd hb hn hst hcat kl hy A C h5 h6
/-- a static method is called -/
theorem e_callS (hE : nh_ E) (hd : decode M.2.1 pc = .ok (.invokestatic idx, 3)) (sf : SF_ M.1 idx y M' n) (hdd : d' + 1 ≤ d ∧ 8 + (M'.2.2.1 + 11) + 37 * d' ≤ 37 * d) (hb : bc' ≤ bc ∧ bs' ≤ bs) (hn : as.length = n) (hst : stk = as.reverse ++ st) (hcat : pcat_ st ≤ 8)
    (C : Cl_ y M' d' bc' bs' as N h (fun r N' h' => SE_ E M d (bc - bc') (bs - bs') Q (pc + 3) L (r.toList ++ st) N' h', Q.2)) (h5 : nk5_ L = true := by rfl) (h6 : nk5_ st = true := by rfl) : SE_ E M d bc bs Q pc L stk N h := by
  intro l s0 D dA ad p e R s m args below meth c H locs cells slots mc ms ls hG hC hW hL
  have hr := vx_runS (As := as.map (rv_ ad)) (rest := st.map (rv_ ad)) (g := F0 m pc ls (stk.map (rv_ ad))) (H := H) (locs := locs) (below := below) (meth := meth) (cells := cells) (slots := slots) (e := e) ⟨cx_ex hC, cx_cb hC, cx_ml hC, cx_own hC, cx_ts hC⟩ (C l s0 D dA ad hG) ⟨cf_cb hC sf.1 sf.2.1 hdd, cx_ts hC _ sf.2.2⟩
    ⟨pc_bl, fun U hU hW' => ⟨rfl, cx_in hC hW', by rw [hU]; exact hW.1⟩⟩ rfl (by rw [List.length_map]; exact hn) hL.1 (by subst hst; simp) (lv_room (by rw [pcat_eq]; exact hcat)) hd (cx_f hC hb)
  exact s_back hE hr hG hC hW.2 hL hb h5 h6 (fun _ _ _ z => z) (fun _ _ _ z => z)
theorem s_callS (hd : decode M.2.1 pc = .ok (.invokestatic idx, 3)) (sf : SF_ M.1 idx y M' n) (hdd : d' + 1 ≤ d ∧ 8 + (M'.2.2.1 + 11) + 37 * d' ≤ 37 * d) (hb : bc' ≤ bc ∧ bs' ≤ bs) (hn : as.length = n) (hst : stk = as.reverse ++ st) (hcat : pcat_ st ≤ 8)
    (C : Cl_ y M' d' bc' bs' as N h (fun r N' h' => S_ M d (bc - bc') (bs - bs') Q (pc + 3) L (r.toList ++ st) N' h', Q.2)) (h5 : nk5_ L = true := by rfl) (h6 : nk5_ st = true := by rfl) : S_ M d bc bs Q pc L stk N h :=
  e_callS nh_0 hd sf hdd hb hn hst hcat C h5 h6
end CALLS
