/-! calls -/
/-- how many places these values take on the operand stack -/
def pcat_ : List PV → Nat
  | [] => 0
  | v :: t => (if Nat.beq v.1 1 then 2 else 1) + pcat_ t
theorem pcat_eq (ad : Int → Nat) : ∀ st : List PV, ((st.map (rv_ ad)).map fun v => v.category).sum = pcat_ st
  | [] => rfl
  | v :: t => by
    simp only [List.map_cons, List.sum_cons, rv_cat, pcat_, pcat_eq ad t]
    by_cases e : v.1 = 1
    · simp [e]
    · have : Nat.beq v.1 1 = false := by
        cases hb : Nat.beq v.1 1 with
        | false => rfl
        | true => exact absurd (Nat.eq_of_beq_eq_true hb) e
      simp [e, this]
section CALLS
variable {M M' : PM} {d d' bc bs bc' bs' : Nat} {Q : PQ} {pc idx n : Nat} {L st stk as : List PV} {N : Nat} {h : PH} {y : MethodName}
theorem s_back {l : Launch} {s0 : State} {D : va_G} {dA : Nat → ClassId} {ad : Int → Nat} {p : Program} {e : Env} {R : Room} {s : State} {m : MethodId} {args a' : Array Value} {below : List Frame} {meth : Method} {c : Code} {H : Heap} {locs : List Loc} {cells slots mc ms : Nat} {ls : Array Slot} {st0 : List Value} {P : Option PV → Nat → PH → Prop} {PX : String → Nat → PH → Prop}
    (hr : vx_Run p l e R s m args below meth c H locs cells slots bc' bs' (F0 m pc ls st0) (st.map (rv_ ad)) (Qc_ s0 D dA ad P a') (XC_ s0 D dA ad PX) (own_ s0)) (hG : Gl_ l s0 D dA ad) (hC : Cx_ M d bc bs s0 p R s m args meth c cells slots mc ms) (hS : va_S (own_ s0) s.heap H locs) (hL : lv_has ls M.2.2.1 (as_ ad 0 L)) (hb : bc' ≤ bc ∧ bs' ≤ bs)
    (kk : ∀ r N' h', P r N' h' → S_ M d (bc - bc') (bs - bs') Q (pc + 3) L (r.toList ++ st) N' h') (kx : ∀ E N' h', PX E N' h' → Q.2 E N' h') :
    W p l e R s m args below meth c H locs cells slots (vx_MQ below (Qc_ s0 D dA ad Q.1) (XC_ s0 D dA ad Q.2) args s mc ms (own_ s0)) (F0 m pc ls st0) := by
  intro T hT X
  rcases hr T hT X with ⟨v, st₀, t, T', Lx, h0, X', hLx, e1, e2, ⟨⟨r, N', h', hv, hp, hWd⟩, hF⟩, stp⟩ | ⟨q, st₀, t, T', Lx, E, ce, h0, X', hLx, e1, e2, ⟨⟨N', h', hp, hWd⟩, hF⟩, hce, hcv, hcl, stp⟩
  · cases hv
    obtain ⟨k1, k2, k3⟩ := vx_keep h0 e1 hS (fun _ _ z => z) (fun _ z => z) hLx hF
    have hC' : Cx_ M d (bc - bc') (bs - bs') s0 p R s m args meth c (cells + bc') (slots + bs') mc ms := by
      obtain ⟨q1, q2, q3, q4, q5, q6, q7, q8, q9, q10, q11, q12, q13, q14, q15⟩ := hC
      exact ⟨q1, q2, q3, q4, q5, q6, q7, q8, q9, q10, q11, q12, by omega, by omega, q15⟩
    obtain ⟨t2, a1, b1⟩ := kk r N' h' hp l s0 D dA ad p e R s m args below meth c T'.heap (locs ++ Lx) (cells + bc') (slots + bs') mc ms ls hG hC' ⟨by rw [e1]; exact hWd, k3⟩ hL T' rfl X'
    refine ⟨t2, stp t2 ?_, b1⟩
    have e9 : (r.toList ++ st).map (rv_ ad) = (r.map (rv_ ad)).toList ++ st.map (rv_ ad) := by cases r <;> rfl
    rw [e9] at a1
    exact a1
  · obtain ⟨k1, k2, k3⟩ := vx_keep h0 e1 hS (fun _ _ z => z) (fun _ z => z) hLx hF
    have hx : vx_W p l e R s m args below meth c T'.heap (locs ++ Lx) (cells + bc') (slots + bs') (vx_MQ below (Qc_ s0 D dA ad Q.1) (XC_ s0 D dA ad Q.2) args s mc ms (own_ s0)) (F0 m pc ls (st.map (rv_ ad))) q :=
      vx_out (E := E) (ce := ce) (fun x hx => ((cx_tb hC) x hx).elim) (cx_lk hC) (by rw [e1]; exact hce) hcv hcl (fun t9 ht9 _ => ⟨⟨N', h', kx E N' h' hp, by rw [ht9, e1]; exact hWd⟩, k3.F ht9⟩) (fun z hz => k3.2.2 z hz) (by have := cx_bc hC; omega) (by have := cx_bs hC; omega)
    obtain ⟨t2, a1, b1⟩ := hx T' rfl X'
    exact ⟨t2, stp.trans a1, b1⟩
theorem cf_cb {s0 : State} {p : Program} {R : Room} {s : State} {m : MethodId} {args : Array Value} {meth : Method} {c : Code} {cells slots mc ms : Nat} (hC : Cx_ M d bc bs s0 p R s m args meth c cells slots mc ms) (cf : CF_ y M' n) (hl : Cond.methodLink M.1 idx y ∈ TBL) (hd : d' + 1 ≤ d ∧ 8 + (M'.2.2.1 + 11) + 60 * d' ≤ 60 * d) :
    CallB R s args M.1 idx y M'.2.1 M'.2.2.1 M'.2.2.2 (.code y M'.2.1 M'.2.2.1 M'.2.2.2 :: TBL) { frames := d', locals := 60 * d', cells := bc', slots := bs' } bc' bs' n := by
  refine ⟨rfl, rfl, Nat.le_trans hd.1 (cx_fr hC), Nat.le_trans hd.2 (cx_lo hC), pay_in (cx_ts hC) (fun w hw => ?_), List.mem_cons_self, cx_ts hC _ cf.2.1, cx_ts hC _ cf.1, cf.2.2.1, cf.2.2.2, cx_ts hC _ hl⟩
  rcases List.mem_cons.mp hw with rfl | hw
  · exact ⟨cf.2.1, tb_good _ cf.2.1⟩
  · exact ⟨hw, tb_good _ hw⟩
theorem pc_bl {s0 : State} {D : va_G} {dA : Nat → ClassId} {ad : Int → Nat} {av : List Value} : FrameBlind (va_Pc av (fun U => s0.vm.Alike U.vm ∧ Wd_ s0 D dA ad N h U.heap)) := fun _ _ _ _ q => q
theorem cx_f {s0 : State} {p : Program} {R : Room} {s : State} {m : MethodId} {args : Array Value} {meth : Method} {c : Code} {cells slots mc ms : Nat} (hC : Cx_ M d bc bs s0 p R s m args meth c cells slots mc ms) (hb : bc' ≤ bc ∧ bs' ≤ bs) : cells + bc' ≤ R.cells ∧ slots + bs' ≤ R.slots := by
  have h1 := cx_bc hC
  have h2 := cx_bs hC
  have h3 := cx_rc hC
  have h4 := cx_rs hC
  exact ⟨by omega, by omega⟩
/-- a method of an object is called; what is owed behind it: the rest of this one -/
theorem s_callV {a : Int} {ci : Nat} (hd : decode M.2.1 pc = .ok (.invokevirtual idx, 3)) (vf : VF_ M.1 idx y M' n) (hdd : d' + 1 ≤ d ∧ 8 + (M'.2.2.1 + 11) + 60 * d' ≤ 60 * d) (hb : bc' ≤ bc ∧ bs' ≤ bs) (hn : as.length = n) (hst : stk = as.reverse ++ (2, a) :: st) (hcat : pcat_ st ≤ 8) (kl : Kl_ ci) (hy : uC_ ci = y.cls) (A : isO N a ci)
    (C : Cl_ y M' d' bc' bs' ((2, a) :: as) N h (fun r N' h' => S_ M d (bc - bc') (bs - bs') Q (pc + 3) L (r.toList ++ st) N' h', Q.2)) : S_ M d bc bs Q pc L stk N h := by
  intro l s0 D dA ad p e R s m args below meth c H locs cells slots mc ms ls hG hC hW hL
  obtain ⟨⟨⟨sv, hP, hD⟩, hb1, hb2⟩, hS⟩ := id hW
  have hr := vx_runV (As := as.map (rv_ ad)) (rest := st.map (rv_ ad)) (b := ad a) (C := y.cls) (g := F0 m pc ls (stk.map (rv_ ad))) (H := H) (locs := locs) (below := below) (meth := meth) (cells := cells) (slots := slots) (e := e) ⟨cx_ex hC, cx_cb hC, cx_ml hC, cx_own hC, cx_ts hC⟩ (C l s0 D dA ad hG) ⟨cf_cb hC vf.1 vf.2.1 hdd, cx_ts hC _ vf.2.2.1, cx_ts hC _ vf.2.2.2⟩
    ⟨pc_bl, by rw [← hy]; exact va_recv (Gl_K hG (cx_al hC)) hP kl.2.1 (wl_obj kl.1 A), fun U hU hW' => ⟨rfl, (cx_al hC).trans hW'.alike, by rw [hU]; exact hW.1⟩⟩ rfl (by rw [List.length_map]; exact hn) hL.1 (by subst hst; simp [rv_]) (lv_room (by rw [pcat_eq]; exact hcat)) hd (cx_f hC hb)
  exact s_back hr hG hC hS hL hb (fun _ _ _ z => z) (fun _ _ _ z => z)
/-- a static method is called -/
theorem s_callS (hd : decode M.2.1 pc = .ok (.invokestatic idx, 3)) (sf : SF_ M.1 idx y M' n) (hdd : d' + 1 ≤ d ∧ 8 + (M'.2.2.1 + 11) + 60 * d' ≤ 60 * d) (hb : bc' ≤ bc ∧ bs' ≤ bs) (hn : as.length = n) (hst : stk = as.reverse ++ st) (hcat : pcat_ st ≤ 8)
    (C : Cl_ y M' d' bc' bs' as N h (fun r N' h' => S_ M d (bc - bc') (bs - bs') Q (pc + 3) L (r.toList ++ st) N' h', Q.2)) : S_ M d bc bs Q pc L stk N h := by
  intro l s0 D dA ad p e R s m args below meth c H locs cells slots mc ms ls hG hC hW hL
  have hS := hW.2
  have hr := vx_runS (As := as.map (rv_ ad)) (rest := st.map (rv_ ad)) (g := F0 m pc ls (stk.map (rv_ ad))) (H := H) (locs := locs) (below := below) (meth := meth) (cells := cells) (slots := slots) (e := e) ⟨cx_ex hC, cx_cb hC, cx_ml hC, cx_own hC, cx_ts hC⟩ (C l s0 D dA ad hG) ⟨cf_cb hC sf.1 sf.2.1 hdd, cx_ts hC _ sf.2.2⟩
    ⟨pc_bl, fun U hU hW' => ⟨rfl, (cx_al hC).trans hW'.alike, by rw [hU]; exact hW.1⟩⟩ rfl (by rw [List.length_map]; exact hn) hL.1 (by subst hst; simp) (lv_room (by rw [pcat_eq]; exact hcat)) hd (cx_f hC hb)
  exact s_back hr hG hC hS hL hb (fun _ _ _ z => z) (fun _ _ _ z => z)
end CALLS
