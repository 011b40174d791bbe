/-! the String that the text becomes: it and its bytes are made beside the cells -/
theorem kwJ0 : ∀ w ∈ u_ws RJ0 TJ0 4, w ∈ TBL := by
  show ∀ w ∈ [u_lay RJ0 TJ0 0, u_lay RJ0 TJ0 1, u_lay RJ0 TJ0 2, u_lay RJ0 TJ0 3], w ∈ TBL
  exact List.forall_mem_cons.mpr ⟨tb_in 976 (by decide +kernel) (by decide +kernel), List.forall_mem_cons.mpr ⟨tb_in 978 (by decide +kernel) (by decide +kernel), List.forall_mem_cons.mpr ⟨tb_in 980 (by decide +kernel) (by decide +kernel), List.forall_mem_cons.mpr ⟨tb_in 982 (by decide +kernel) (by decide +kernel), fun _ h => absurd h List.not_mem_nil⟩⟩⟩⟩
abbrev MJ5_getValue : PM := (RJ5, cJ5_getValue_6d5f1, 1, some (.array .byte))
abbrev MJ0_initS : PM := (RJ0, cJ0_init_81219, 2, none)
abbrev MJ0_initA : PM := (RJ0, cJ0_init_db425, 5, none)
abbrev MJ4_toString : PM := (RJ4, cJ4_toString_0e30d, 1, some (.object "java/lang/String"))
theorem cfJ5_getValue : CF_ yJ5_getValue_6d5f1 MJ5_getValue 0 := ⟨tb_in 56 (by decide +kernel) (by decide +kernel), tb_in 949 (by decide +kernel) (by decide +kernel), ⟨by decide +kernel, by decide +kernel⟩, np_len (by decide +kernel)⟩
theorem cfJ0_initS : CF_ yJ0_init_81219 MJ0_initS 1 := ⟨tb_in 58 (by decide +kernel) (by decide +kernel), tb_in 940 (by decide +kernel) (by decide +kernel), ⟨by decide +kernel, by decide +kernel⟩, np_len (by decide +kernel)⟩
theorem cfJ0_initA : CF_ yJ0_init_db425 MJ0_initA 2 := ⟨tb_in 58 (by decide +kernel) (by decide +kernel), tb_in 943 (by decide +kernel) (by decide +kernel), ⟨by decide +kernel, by decide +kernel⟩, np_len (by decide +kernel)⟩
theorem cfJ4_toString : CF_ yJ4_toString_0e30d MJ4_toString 0 := ⟨tb_in 57 (by decide +kernel) (by decide +kernel), tb_in 935 (by decide +kernel) (by decide +kernel), ⟨by decide +kernel, by decide +kernel⟩, np_len (by decide +kernel)⟩
theorem bf_J0_552 : BF_ RJ0 552 yJ5_getValue_6d5f1 MJ5_getValue 0 := ⟨cfJ5_getValue, tb_in 945 (by decide +kernel) (by decide +kernel), tb_in 946 (by decide +kernel) (by decide +kernel), tb_in 948 (by decide +kernel) (by decide +kernel)⟩
theorem bf_J0_1047 : BF_ RJ0 1047 yJ5_isLatin1_aae02 MJ5_isLatin1_aae02 0 := ⟨cfJ5_isLatin1_aae02, lk_J0_1047, tb_in 793 (by decide +kernel) (by decide +kernel), tb_in 795 (by decide +kernel) (by decide +kernel)⟩
theorem if_J0_489 : IF_ RJ0 489 yJ0_init_db425 MJ0_initA 2 := ⟨cfJ0_initA, tb_in 941 (by decide +kernel) (by decide +kernel), tb_in 942 (by decide +kernel) (by decide +kernel), rfl, rfl⟩
theorem if_J4_137 : IF_ RJ4 137 yJ0_init_81219 MJ0_initS 1 := ⟨cfJ0_initS, tb_in 938 (by decide +kernel) (by decide +kernel), tb_in 939 (by decide +kernel) (by decide +kernel), rfl, rfl⟩
theorem bf_L_67 : BF_ RL 67 yJ4_toString_0e30d MJ4_toString 0 := ⟨cfJ4_toString, tb_in 932 (by decide +kernel) (by decide +kernel), tb_in 933 (by decide +kernel) (by decide +kernel), tb_in 934 (by decide +kernel) (by decide +kernel)⟩
theorem ob_J0_1 : Cond.methodLink RJ0 1 Lib.objectInit ∈ TBL ∧ Cond.instanceMethod Lib.objectInit ∈ TBL ∧ Cond.code Lib.objectInit ⟨#[0xb1]⟩ 1 none ∈ TBL := ⟨tb_in 944 (by decide +kernel) (by decide +kernel), tb_in 108 (by decide +kernel) (by decide +kernel), tb_in 109 (by decide +kernel) (by decide +kernel)⟩
theorem kxw_cl : Cond.castable "[B" "java/lang/Cloneable" ∈ kxw_ := kxw_in 788 (by decide +kernel) rfl
theorem as_self (vm : Vm) (c : ClassId) : vm.assignable c c = true := by
  show vm.assignableAux _ c c = true
  unfold Vm.assignableAux
  simp
/-- a world as it lies, with what stands beside the cells -/
def WS_ (s0 : State) (D : va_G) (ws : va_W) (H : Heap) : Prop := (va_P D ucl ws H ∧ va_D (own_ s0) ws) ∧ s0.heap.size ≤ H.size ∧ ∀ q : Nat, q < s0.heap.size → H[q]? = s0.heap[q]?
abbrev ZP : Type := Option Value → va_W → Prop
def QS_ (s0 : State) (D : va_G) (Z : ZP) : Array Value → State → Outcome → State → Prop := fun _ st o t => (∃ (v : Option Value) (ws : va_W), Z v ws ∧ o = .returned v ∧ WS_ s0 D ws t.heap) ∧ va_F (own_ s0) st t
abbrev NX_ : String → State → State → Prop := fun _ _ _ => False
def RM_ (l : Launch) (s0 : State) (D : va_G) (y : MethodName) (M : PM) (d bc bs : Nat) (as : List Value) (ws : va_W) (Z : ZP) : Prop :=
  vx_Met l y (.code y M.2.1 M.2.2.1 M.2.2.2 :: TBL) { frames := d, locals := 37 * d, cells := bc, slots := bs } (va_Pc as (fun U => s0.WarmedH U.vm ∧ WS_ s0 D ws U.heap)) (QS_ s0 D Z) NX_ bc bs (own_ s0)
section RENT
variable {l : Launch} {s0 : State} {D : va_G} {ad : AD} {y : MethodName} {M : PM} {d bc bs : Nat} {as : List Value} {ws : va_W} {Z : ZP}
theorem r_enter (hp : plainName y.cls = true) (hc : y.cls = M.1) (hn : (lg_sl as).length ≤ M.2.2.1)
    (k : ∀ (p : Program) (e : Env) (R : Room) (s : State) (m : MethodId) (args : Array Value) (below : List Frame) (meth : Method) (c : Code) (ls : Array Slot), Cx_ E0_ ad.2 M d bc bs s0 p R s m args meth c 0 0 bc bs → WS_ s0 D ws s.heap → va_S (own_ s0) s.heap s.heap [] → lv_has ls M.2.2.1 (lv_args 0 as) → W p l e R s m args below meth c s.heap [] 0 0 (vx_MQ below (QS_ s0 D Z) NX_ args s bc bs (own_ s0)) (F0 m 0 ls [])) : RM_ l s0 D y M d bc bs as ws Z := by
  refine vx_ofW hp rfl ?_
  intro p e s m args below meth c s₁ B hml hex hpc
  obtain ⟨rfl, hal, hW⟩ := hpc
  have hts : ∀ w ∈ TBL, w.before as.toArray s = true := fun w' hw => atoms_spec (ws := .code y M.2.1 M.2.2.1 M.2.2.2 :: TBL) B.pre w' (List.mem_cons_of_mem _ hw)
  rw [lg_entry_eq]
  exact k p e _ s m _ below meth c _ ⟨B.exec, B.bytes, hml, by rw [← hc]; exact findClass_of_methodNamed B.named, hts, B.returns, B.notSynchronized, hex, Nat.le_refl _, Nat.le_refl _, Nat.le_refl _, Nat.le_refl _, by omega, by omega, hal, hW.2.1, hW.2.2⟩ hW va_S.rf (lv_entry as hn)
theorem r_enterI (hp : plainName y.cls = true) (hc : y.cls = M.1) (hi : y.name = "<init>") (hn : (lg_sl as).length ≤ M.2.2.1)
    (k : ∀ (p : Program) (e : Env) (R : Room) (s : State) (m : MethodId) (args : Array Value) (below : List Frame) (meth : Method) (c : Code) (ls : Array Slot), Cx_ E1_ ad.2 M d bc bs s0 p R s m args meth c 0 0 bc bs → WS_ s0 D ws s.heap → va_S (own_ s0) s.heap s.heap [] → lv_has ls M.2.2.1 (lv_args 0 as) → W p l e R s m args below meth c s.heap [] 0 0 (vx_MQ below (QS_ s0 D Z) NX_ args s bc bs (own_ s0)) (F0 m 0 ls [])) : RM_ l s0 D y M d bc bs as ws Z := by
  refine vx_ofW hp rfl ?_
  intro p e s m args below meth c s₁ B hml hex hpc
  obtain ⟨rfl, hal, hW⟩ := hpc
  have hts : ∀ w ∈ TBL, w.before as.toArray s = true := fun w' hw => atoms_spec (ws := .code y M.2.1 M.2.2.1 M.2.2.2 :: TBL) B.pre w' (List.mem_cons_of_mem _ hw)
  rw [lg_entry_eq]
  exact k p e _ s m _ below meth c _ ⟨B.exec, B.bytes, hml, by rw [← hc]; exact findClass_of_methodNamed B.named, hts, B.returns, B.notSynchronized, ⟨hex, hi ▸ (name_of_methodNamed B.named B.method).1⟩, Nat.le_refl _, Nat.le_refl _, Nat.le_refl _, Nat.le_refl _, by omega, by omega, hal, hW.2.1, hW.2.2⟩ hW va_S.rf (lv_entry as hn)
end RENT
section RCALL
variable {E : EP} {M M' : PM} {d d' bc bs bc' bs' n idx pc cl sl : Nat} {x y : MethodName} {l : Launch} {s0 : State} {D : va_G} {dA : Nat → ClassId} {ad : AD} {p : Program} {e : Env} {R : Room} {s : State} {m : MethodId} {args a' : Array Value} {below : List Frame} {meth : Method} {c : Code} {H : Heap} {locs : List Loc} {cells slots mc ms : Nat} {ls : Array Slot} {as rest stk st0 : List Value} {ws : va_W} {Z : ZP} {Q : State → Prop}
/-- behind such a call -/
theorem r_back (hr : vx_Run p l e R s m args below meth c H locs cells slots cl sl (F0 m pc ls st0) rest (QS_ s0 D Z a') NX_ (own_ s0)) (hS : va_S (own_ s0) s.heap H locs)
    (kk : ∀ (v : Option Value) (w1 : va_W) (H' : Heap) (locs' : List Loc), Z v w1 → WS_ s0 D w1 H' → va_S (own_ s0) s.heap H' locs' → W p l e R s m args below meth c H' locs' (cells + cl) (slots + sl) Q (F0 m (pc + 3) ls (v.toList ++ rest))) : W p l e R s m args below meth c H locs cells slots Q (F0 m pc ls st0) := by
  intro T hT X
  rcases hr T hT X with ⟨v, st₀, t, T', Lx, h0, X', hLx, e1, e2, ⟨⟨v', w1, hz, hv, hWd⟩, hF⟩, stp⟩ | ⟨q, st₀, t, T', Lx, E9, ce, h0, X', hLx, e1, e2, hx, hce, hcv, hcl, stp⟩
  · cases hv
    obtain ⟨k1, k2, k3⟩ := vx_keep h0 e1 hS (fun _ _ z => z) (fun _ z => z) hLx hF
    obtain ⟨t2, a1, b1⟩ := kk v w1 T'.heap (locs ++ Lx) hz (by rw [e1]; exact hWd) k3 T' rfl X'
    exact ⟨t2, stp t2 a1, b1⟩
  · exact hx.elim
theorem r_callS (hC : Cx_ E ad.2 M d bc bs s0 p R s m args meth c cells slots mc ms) (hW : WS_ s0 D ws H) (hS : va_S (own_ s0) s.heap H locs) (hls : ls.size = M.2.2.1) (hd : decode M.2.1 pc = .ok (.invokestatic idx, 3)) (sf : SF_ M.1 idx y M' n) (hdd : d' + 1 ≤ d ∧ 8 + (M'.2.2.1 + 11) + 37 * d' ≤ 37 * d) (hb : bc' ≤ bc ∧ bs' ≤ bs) (hn : as.length = n) (hst : stk = as.reverse ++ rest) (hcat : (rest.map fun v => v.category).sum ≤ 8) (C : RM_ l s0 D y M' d' bc' bs' as ws Z)
    (kk : ∀ (v : Option Value) (w1 : va_W) (H' : Heap) (locs' : List Loc), Z v w1 → WS_ s0 D w1 H' → va_S (own_ s0) s.heap H' locs' → W p l e R s m args below meth c H' locs' (cells + bc') (slots + bs') Q (F0 m (pc + 3) ls (v.toList ++ rest))) : W p l e R s m args below meth c H locs cells slots Q (F0 m pc ls stk) :=
  r_back (vx_runS (As := as) (rest := rest) (g := F0 m pc ls stk) (H := H) (locs := locs) (below := below) (meth := meth) (cells := cells) (slots := slots) (e := e) ⟨cx_ex hC, cx_cb hC, cx_ml hC, cx_own hC, cx_ts hC⟩ C ⟨cf_cb hC sf.1 sf.2.1 hdd, cx_ts hC _ sf.2.2⟩
    ⟨fun _ _ _ _ q => q, fun U hU hW' => ⟨rfl, cx_in hC hW', by rw [hU]; exact hW⟩⟩ rfl hn hls hst (lv_room hcat) hd (cx_f hC hb)) hS kk
theorem r_callB {b q0 : Nat} {fs : List Value} (hG : Gl_ l s0 D dA ad.2) (hC : Cx_ E ad.2 M d bc bs s0 p R s m args meth c cells slots mc ms) (hW : WS_ s0 D ws H) (hS : va_S (own_ s0) s.heap H locs) (hls : ls.size = M.2.2.1) (he : ws[q0]? = some (b, .inr (8, fs))) (hd : decode M.2.1 pc = .ok (.invokevirtual idx, 3)) (bf : BF_ M.1 idx y M' n) (hdd : d' + 1 ≤ d ∧ 8 + (M'.2.2.1 + 11) + 37 * d' ≤ 37 * d) (hb : bc' ≤ bc ∧ bs' ≤ bs) (hn : as.length = n) (hst : stk = as.reverse ++ .ref b :: rest) (hcat : (rest.map fun v => v.category).sum ≤ 8) (C : RM_ l s0 D y M' d' bc' bs' (.ref b :: as) ws Z)
    (kk : ∀ (v : Option Value) (w1 : va_W) (H' : Heap) (locs' : List Loc), Z v w1 → WS_ s0 D w1 H' → va_S (own_ s0) s.heap H' locs' → W p l e R s m args below meth c H' locs' (cells + bc') (slots + bs') Q (F0 m (pc + 3) ls (v.toList ++ rest))) : W p l e R s m args below meth c H locs cells slots Q (F0 m pc ls stk) :=
  r_back (vx_runV (As := as) (rest := rest) (b := b) (C := "java/lang/StringBuilder") (g := F0 m pc ls stk) (H := H) (locs := locs) (below := below) (meth := meth) (cells := cells) (slots := slots) (e := e) ⟨cx_ex hC, cx_cb hC, cx_ml hC, cx_own hC, cx_ts hC⟩ C ⟨cf_cb hC bf.1 bf.2.1 hdd, cx_ts hC _ bf.2.2.1, cx_ts hC _ bf.2.2.2⟩
    ⟨fun _ _ _ _ q => q, va_recv (Gl_K hG (cx_al hC)) hW.1.1 (ci := 8) (q := (RJ4, TJ4, 4)) rfl he, fun U hU hW' => ⟨rfl, cx_in hC hW', by rw [hU]; exact hW⟩⟩ rfl hn hls hst (lv_room hcat) hd (cx_f hC hb)) hS kk
theorem r_callC {b : Nat} (hC : Cx_ E ad.2 M d bc bs s0 p R s m args meth c cells slots mc ms) (hW : WS_ s0 D ws H) (hS : va_S (own_ s0) s.heap H locs) (hls : ls.size = M.2.2.1) (hd : decode M.2.1 pc = .ok (.invokespecial idx, 3)) (vf : IF_ M.1 idx y M' n) (hdd : d' + 1 ≤ d ∧ 8 + (M'.2.2.1 + 11) + 37 * d' ≤ 37 * d) (hb : bc' ≤ bc ∧ bs' ≤ bs) (hn : as.length = n) (hst : stk = as.reverse ++ .ref b :: rest) (hcat : (rest.map fun v => v.category).sum ≤ 8) (C : RM_ l s0 D y M' d' bc' bs' (.ref b :: as) ws Z)
    (kk : ∀ (v : Option Value) (w1 : va_W) (H' : Heap) (locs' : List Loc), Z v w1 → WS_ s0 D w1 H' → va_S (own_ s0) s.heap H' locs' → W p l e R s m args below meth c H' locs' (cells + bc') (slots + bs') Q (F0 m (pc + 3) ls (v.toList ++ rest))) : W p l e R s m args below meth c H locs cells slots Q (F0 m pc ls stk) := by
  have cb := cf_cb (bc' := bc') (bs' := bs') hC vf.1 vf.2.1 hdd
  have C2 := C
  unfold RM_ at C2
  rw [vf.2.2.2.2] at cb C2
  exact r_back (vx_runI (As := as) (rest := rest) (b := b) (g := F0 m pc ls stk) (H := H) (locs := locs) (below := below) (meth := meth) (cells := cells) (slots := slots) (e := e) ⟨cx_ex hC, cx_cb hC, cx_ml hC, cx_own hC, cx_ts hC⟩ C2 ⟨cb, vf.2.2.2.1, cx_ts hC _ vf.2.2.1⟩
    ⟨fun _ _ _ _ q => q, fun U hU hW' => ⟨rfl, cx_in hC hW', by rw [hU]; exact hW⟩⟩ rfl hn hls hst (lv_room hcat) hd (cx_f hC hb)) hS kk
/-- the length of it, by the name of the class above -/
theorem r_callU {b q0 : Nat} {fs : List Value} (hG : Gl_ l s0 D dA ad.2) (hC : Cx_ E ad.2 M d bc bs s0 p R s m args meth c cells slots mc ms) (hW : WS_ s0 D ws H) (hS : va_S (own_ s0) s.heap H locs) (hls : ls.size = M.2.2.1) (he : ws[q0]? = some (b, .inr (8, fs))) (hd : decode M.2.1 pc = .ok (.invokevirtual idx, 3)) (hl : Cond.methodLink M.1 idx yJ5_length_8abf5 ∈ TBL) (hdd : d' + 1 ≤ d ∧ 8 + (1 + 11) + 37 * d' ≤ 37 * d) (hb : bc' ≤ bc ∧ bs' ≤ bs) (hst : stk = .ref b :: rest) (hcat : (rest.map fun v => v.category).sum ≤ 8) (C : RM_ l s0 D yJ4_length_8abf5 MJ4_length_8abf5 d' bc' bs' [.ref b] ws Z)
    (kk : ∀ (v : Option Value) (w1 : va_W) (H' : Heap) (locs' : List Loc), Z v w1 → WS_ s0 D w1 H' → va_S (own_ s0) s.heap H' locs' → W p l e R s m args below meth c H' locs' (cells + bc') (slots + bs') Q (F0 m (pc + 3) ls (v.toList ++ rest))) : W p l e R s m args below meth c H locs cells slots Q (F0 m pc ls stk) := by
  have cu : va_CU R s args M.1 "java/lang/StringBuilder" "java/lang/AbstractStringBuilder" idx yJ5_length_8abf5 yJ4_length_8abf5 MJ4_length_8abf5.2.1 1 (some .int) (.code yJ4_length_8abf5 MJ4_length_8abf5.2.1 1 (some .int) :: TBL) { frames := d', locals := 37 * d', cells := bc', slots := bs' } bc' bs' 0 := by
    refine ⟨⟨rfl, rfl, Nat.le_trans hdd.1 (cx_fr hC), Nat.le_trans hdd.2 (cx_lo hC), pay_in (cx_ts hC) (fun w hw => ?_), List.mem_cons_self⟩, cx_ts hC _ cfJ4_length_8abf5.2.1, cx_ts hC _ cfJ4_length_8abf5.1, ⟨by decide, by decide⟩, cfJ5_length_8abf5.2.2.2, cx_ts hC _ hl, cx_ts hC _ (tb_in 1207 (by decide +kernel) (by decide +kernel)), va_Decl.of (cx_ts hC _ (tb_in 422 (by decide +kernel) (by decide +kernel))) (cx_ts hC _ cfJ5_length_8abf5.2.1), cx_ts hC _ (tb_in 1217 (by decide +kernel) (by decide +kernel)), cx_ts hC _ (tb_in 417 (by decide +kernel) (by decide +kernel))⟩
    rcases List.mem_cons.mp hw with rfl | hw
    · exact ⟨cfJ4_length_8abf5.2.1, tb_good _ cfJ4_length_8abf5.2.1⟩
    · exact ⟨hw, tb_good _ hw⟩
  exact r_back (vx_runU (As := []) (rest := rest) (b := b) (g := F0 m pc ls stk) (H := H) (locs := locs) (below := below) (meth := meth) (cells := cells) (slots := slots) (e := e) ⟨cx_ex hC, cx_cb hC, cx_ml hC, cx_own hC, cx_ts hC⟩ C cu
    ⟨fun _ _ _ _ q => q, va_recv (Gl_K hG (cx_al hC)) hW.1.1 (ci := 8) (q := (RJ4, TJ4, 4)) rfl he, fun U hU hW' => ⟨rfl, cx_in hC hW', by rw [hU]; exact hW⟩⟩ rfl rfl hls hst (lv_room hcat) hd (cx_f hC hb)) hS kk
theorem r_callSU {b q0 : Nat} {fs : List Value} (hG : Gl_ l s0 D dA ad.2) (hC : Cx_ E ad.2 M d bc bs s0 p R s m args meth c cells slots mc ms) (hW : WS_ s0 D ws H) (hS : va_S (own_ s0) s.heap H locs) (hls : ls.size = M.2.2.1) (he : ws[q0]? = some (b, .inr (8, fs))) (hd : decode M.2.1 pc = .ok (.invokespecial idx, 3)) (su : US_ M.1 idx y M' n) (hdd : d' + 1 ≤ d ∧ 8 + (M'.2.2.1 + 11) + 37 * d' ≤ 37 * d) (hb : bc' ≤ bc ∧ bs' ≤ bs) (hn : as.length = n) (hst : stk = as.reverse ++ .ref b :: rest) (hcat : (rest.map fun v => v.category).sum ≤ 8) (C : RM_ l s0 D y M' d' bc' bs' (.ref b :: as) ws Z)
    (kk : ∀ (v : Option Value) (w1 : va_W) (H' : Heap) (locs' : List Loc), Z v w1 → WS_ s0 D w1 H' → va_S (own_ s0) s.heap H' locs' → W p l e R s m args below meth c H' locs' (cells + bc') (slots + bs') Q (F0 m (pc + 3) ls (v.toList ++ rest))) : W p l e R s m args below meth c H locs cells slots Q (F0 m pc ls stk) := by
  obtain ⟨u1, u2, u3, u4, u5, u6⟩ := su
  have hK := Gl_K hG (cx_al hC)
  have cs : va_CS R s args M.1 idx y M'.2.1 M'.2.2.1 M'.2.2.2 (.code y M'.2.1 M'.2.2.1 M'.2.2.2 :: TBL) { frames := d', locals := 37 * d', cells := bc', slots := bs' } bc' bs' n := by
    refine ⟨⟨rfl, rfl, Nat.le_trans hdd.1 (cx_fr hC), Nat.le_trans hdd.2 (cx_lo hC), pay_in (cx_ts hC) (fun w hw => ?_), List.mem_cons_self⟩, cx_ts hC _ u2, cx_ts hC _ u3, cx_ts hC _ u4, cx_ts hC _ u5, cx_ts hC _ u1.1, cx_ts hC _ u1.2.1, u6, u1.2.2.2⟩
    rcases List.mem_cons.mp hw with rfl | hw
    · exact ⟨u1.2.1, tb_good _ u1.2.1⟩
    · exact ⟨hw, tb_good _ hw⟩
  exact r_back (vx_runSU (C := RJ4) (hK.1 8 (RJ4, TJ4, 4) rfl).2 (As := as) (rest := rest) (b := b) (g := F0 m pc ls stk) (H := H) (locs := locs) (below := below) (meth := meth) (cells := cells) (slots := slots) (e := e) ⟨cx_ex hC, cx_cb hC, cx_ml hC, cx_own hC, cx_ts hC⟩ C cs
    ⟨fun _ _ _ _ q => q, va_recv hK hW.1.1 (ci := 8) (q := (RJ4, TJ4, 4)) rfl he, fun U hU hW' => ⟨rfl, cx_in hC hW', by rw [hU]; exact hW⟩⟩ rfl hn hls hst (lv_room hcat) hd (cx_f hC hb)) hS kk
/-- ends -/
theorem r_aret {a : Nat} {rt : FieldType} (hC : Cx_ E ad.2 M d bc bs s0 p R s m args meth c cells slots mc ms) (hW : WS_ s0 D ws H) (hS : va_S (own_ s0) s.heap H locs) (hd : decode M.2.1 pc = .ok (.areturn, 1)) (hr : M.2.2.2 = some rt) (hrt : (∃ n, rt = .object n) ∨ ∃ t, rt = .array t) (hz : Z (some (.ref a)) ws) : W p l e R s m args below meth c H locs cells slots (vx_MQ below (QS_ s0 D Z) NX_ args s mc ms (own_ s0)) (F0 m pc ls [.ref a]) := by
  refine W.widen (k := mc) (n := ms) (by have := (cx_bc hC); omega) (by have := (cx_bs hC); omega) (vx_ret ?_)
  exact W.aret (cx_ex hC) (cx_cb hC) ((cx_rt hC).trans hr) hrt (Or.inr ⟨a, rfl⟩) (fun t ht _ => ⟨⟨_, ws, hz, rfl, by rw [ht]; exact hW⟩, hS.F ht⟩) (fun q hq => hS.2.2 q hq) hd (cx_lk hC)
theorem r_iret {x : Int32} {ty : FieldType} (hC : Cx_ E ad.2 M d bc bs s0 p R s m args meth c cells slots mc ms) (hW : WS_ s0 D ws H) (hS : va_S (own_ s0) s.heap H locs) (hd : decode M.2.1 pc = .ok (.ireturn, 1)) (hr : M.2.2.2 = some ty) (hn : narrow ty (.int x) = .int x) (hz : Z (some (.int x)) ws) : W p l e R s m args below meth c H locs cells slots (vx_MQ below (QS_ s0 D Z) NX_ args s mc ms (own_ s0)) (F0 m pc ls [.int x]) := by
  refine W.widen (k := mc) (n := ms) (by have := (cx_bc hC); omega) (by have := (cx_bs hC); omega) (vx_ret ?_)
  exact W.zret (cx_ex hC) (cx_cb hC) ((cx_rt hC).trans hr) hn (fun t ht _ => ⟨⟨_, ws, hz, rfl, by rw [ht]; exact hW⟩, hS.F ht⟩) (fun q hq => hS.2.2 q hq) hd (cx_lk hC)
theorem r_vret (hC : Cx_ E ad.2 M d bc bs s0 p R s m args meth c cells slots mc ms) (hW : WS_ s0 D ws H) (hS : va_S (own_ s0) s.heap H locs) (hd : decode M.2.1 pc = .ok (.return_, 1)) (hr : M.2.2.2 = none) (hz : Z none ws) : W p l e R s m args below meth c H locs cells slots (vx_MQ below (QS_ s0 D Z) NX_ args s mc ms (own_ s0)) (F0 m pc ls []) := by
  refine W.widen (k := mc) (n := ms) (by have := (cx_bc hC); omega) (by have := (cx_bs hC); omega) (vx_ret ?_)
  exact W.vret (cx_ex hC) (cx_cb hC) ((cx_rt hC).trans hr) (fun t ht _ => ⟨⟨_, ws, hz, rfl, by rw [ht]; exact hW⟩, hS.F ht⟩) (fun q hq => hS.2.2 q hq) hd (cx_lk hC)
theorem ws_put {H1 : Heap} {locs1 : List Loc} {w1 : va_W} (hC : Cx_ E ad.2 M d bc bs s0 p R s m args meth c cells slots mc ms) (hP : va_P D ucl w1 H1) (hD : va_D (own_ s0) w1) (hS : va_S (own_ s0) s.heap H1 locs1) : WS_ s0 D w1 H1 := by
  refine ⟨⟨hP, hD⟩, Nat.le_trans (cx_sz hC) hS.1, fun q hq => ?_⟩
  rw [hS.2.1 q (Nat.lt_of_lt_of_le hq (cx_sz hC)) (fun z => absurd hq (Nat.not_lt.mpr z))]
  exact cx_ag hC q hq
end RCALL
section RMET
variable {l : Launch} {s0 : State} {D : va_G} {dA : Nat → ClassId} {ad : AD} {ws : va_W} {d : Nat} {b q0 : Nat} {v0 : Value} {mx nx : Int32}
theorem rm_getValue {a : Nat} (hG : Gl_ l s0 D dA ad.2) (he : ws[q0]? = some (b, .inr (8, [.ref a, .int 0, .int mx, .int nx]))) : RM_ l s0 D yJ5_getValue_6d5f1 MJ5_getValue d 0 0 [.ref b] ws (fun v w1 => v = some (.ref a) ∧ w1 = ws) := by
  refine r_enter (ad := ad) pn_J5 rfl (Nat.le_of_ble_eq_true rfl) ?_
  intro p e R s m args below meth c ls hC hW hS hL
  refine lv_aload_n (cx_ex hC) (cx_cb hC) dJ5_getValue_6d5f1_0 rfl (hL.2.2 (0, .ref b) List.mem_cons_self) ?_
  refine va_get (C := RJ4) (T := TJ4) (N := 4) (cx_ex hC) (cx_cb hC) (cx_ts hC) kwJ4 (cx_own hC) (Gl_K hG (cx_al hC)) hW.1.1 q0 he rfl 0 (by decide) ((cx_ts hC) _ fl_J5_15) (fun _ q => q) (v := .ref a) rfl dJ5_getValue_6d5f1_1 ?_
  exact r_aret hC hW hS dJ5_getValue_6d5f1_4 rfl (Or.inr ⟨_, rfl⟩) ⟨rfl, rfl⟩
theorem rm_length5 (hG : Gl_ l s0 D dA ad.2) (he : ws[q0]? = some (b, .inr (8, [v0, .int 0, .int mx, .int nx]))) : RM_ l s0 D yJ5_length_8abf5 MJ5_length_8abf5 d 0 0 [.ref b] ws (fun v w1 => v = some (.int nx) ∧ w1 = ws) := by
  refine r_enter (ad := ad) pn_J5 rfl (Nat.le_of_ble_eq_true rfl) ?_
  intro p e R s m args below meth c ls hC hW hS hL
  refine lv_aload_n (cx_ex hC) (cx_cb hC) dJ5_length_8abf5_0 rfl (hL.2.2 (0, .ref b) List.mem_cons_self) ?_
  refine va_get (C := RJ4) (T := TJ4) (N := 4) (cx_ex hC) (cx_cb hC) (cx_ts hC) kwJ4 (cx_own hC) (Gl_K hG (cx_al hC)) hW.1.1 q0 he rfl 3 (by decide) ((cx_ts hC) _ fl_J5_79) (fun _ q => q) (v := .int nx) rfl dJ5_length_8abf5_1 ?_
  exact r_iret hC hW hS dJ5_length_8abf5_4 rfl rfl ⟨rfl, rfl⟩
theorem rm_length4 (hd : 1 ≤ d) (hG : Gl_ l s0 D dA ad.2) (he : ws[q0]? = some (b, .inr (8, [v0, .int 0, .int mx, .int nx]))) : RM_ l s0 D yJ4_length_8abf5 MJ4_length_8abf5 d 0 0 [.ref b] ws (fun v w1 => v = some (.int nx) ∧ w1 = ws) := by
  refine r_enter (ad := ad) pn_J4 rfl (Nat.le_of_ble_eq_true rfl) ?_
  intro p e R s m args below meth c ls hC hW hS hL
  refine lv_aload_n (cx_ex hC) (cx_cb hC) dJ4_length_8abf5_0 rfl (hL.2.2 (0, .ref b) List.mem_cons_self) ?_
  refine r_callSU (d' := d - 1) (bc' := 0) (bs' := 0) (as := []) (rest := []) hG hC hW hS hL.1 he dJ4_length_8abf5_1 su_J4_343 (dd_ (by omega) (by decide)) ⟨Nat.zero_le _, Nat.zero_le _⟩ rfl rfl (Nat.le_of_ble_eq_true rfl) (rm_length5 hG he) ?_
  rintro v w1 H' locs' ⟨rfl, rfl⟩ hW1 hS1
  exact r_iret hC hW1 hS1 dJ4_length_8abf5_4 rfl rfl ⟨rfl, rfl⟩
theorem rm_isLatin1 (hG : Gl_ l s0 D dA ad.2) (he : ws[q0]? = some (b, .inr (8, [v0, .int 0, .int mx, .int nx]))) : RM_ l s0 D yJ5_isLatin1_aae02 MJ5_isLatin1_aae02 d 0 0 [.ref b] ws (fun v w1 => v = some (.int 1) ∧ w1 = ws) := by
  refine r_enter (ad := ad) pn_J5 rfl (Nat.le_of_ble_eq_true rfl) ?_
  intro p e R s m args below meth c ls hC hW hS hL
  have K := kx_at hG hC
  refine va_gets (A := own_ s0) (C := "java/lang/String") (n := "COMPACT_STRINGS") (d := "Z") (v := .int 1) (ref := "java/lang/String") (cx_ex hC) (cx_cb hC) K.2.2.2.2.2.2.2.2.2.1 hS (cx_own hC) (cx_ts hC _ fl_J5_18) (fun _ q => q) dJ5_isLatin1_aae02_0 ?_
  refine lv_if_eq (tgt := 17) (cx_ex hC) (cx_cb hC) dJ5_isLatin1_aae02_3 rfl (fun z => absurd z (by decide)) (fun _ => ?_)
  refine lv_aload_n (cx_ex hC) (cx_cb hC) dJ5_isLatin1_aae02_6 rfl (hL.2.2 (0, .ref b) List.mem_cons_self) ?_
  refine va_get (C := RJ4) (T := TJ4) (N := 4) (cx_ex hC) (cx_cb hC) (cx_ts hC) kwJ4 (cx_own hC) (Gl_K hG (cx_al hC)) hW.1.1 q0 he rfl 1 (by decide) ((cx_ts hC) _ fl_J5_22) (fun _ q => q) (v := .int 0) rfl dJ5_isLatin1_aae02_7 ?_
  refine lv_if_ne (tgt := 17) (cx_ex hC) (cx_cb hC) dJ5_isLatin1_aae02_10 rfl (fun z => absurd rfl z) (fun _ => ?_)
  refine lv_iconst (cx_ex hC) (cx_cb hC) dJ5_isLatin1_aae02_13 rfl ?_
  refine lv_goto (tgt := 18) (cx_ex hC) (cx_cb hC) dJ5_isLatin1_aae02_14 rfl ?_
  exact r_iret hC hW hS dJ5_isLatin1_aae02_18 rfl rfl ⟨rfl, rfl⟩
end RMET
