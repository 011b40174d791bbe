/-! the text that is written is made: its object, its array -/
/-- while it is made: the cells ahead of it, then its own with these fields -/
def WB_ (s0 : State) (D : va_G) (dA : Nat → ClassId) (ad : AD) (h : PH) (fs : List Value) (H : Heap) : Prop :=
  (va_P D ucl (wl_ ad dA 198 h ++ [(ad.2 198, .inr (8, fs))]) H ∧ va_D (own_ s0) (wl_ ad dA 198 h ++ [(ad.2 198, .inr (8, fs))])) ∧ s0.heap.size ≤ H.size ∧ (∀ q : Nat, q < s0.heap.size → H[q]? = s0.heap[q]?) ∧ H.size = s0.heap.size + 199
abbrev SB0 : List Value := [.null, .int 0, .int 0, .int 0]
def QB_ (s0 : State) (D : va_G) (dA : Nat → ClassId) (ad : AD) (h : PH) : Array Value → State → Outcome → State → Prop := fun _ st o t =>
  (∃ ad' : AD, ad'.2 = ad.2 ∧ o = .returned none ∧ Wd_ s0 D dA ad' 199 h t.heap) ∧ va_F (own_ s0) st t
/-- what the heap must say of it -/
def HB_ (h : PH) : Prop := h 198 (-1) = 16 ∧ h 198 0 = 0 ∧ h 198 1 = 0 ∧ ∀ k : Nat, h 198 (10 + (k : Int)) = 0
theorem wl_195l {ad : AD} {dA : Nat → ClassId} {h : PH} : (wl_ ad dA 198 h).length = 198 := by
  unfold wl_
  rw [if_neg (by decide)]
  simp
theorem wl_196 {ad : AD} {dA : Nat → ClassId} {h : PH} (hB : HB_ h) : wl_ ad dA 199 h = (wl_ ad dA 198 h ++ [(ad.2 198, .inr (8, [.ref ad.1, .int 0, .int 0, .int 0]))]) ++ [(ad.1, .inl (dA 1, 16, .inl fun _ => 0))] := by
  obtain ⟨b1, b2, b3, b4⟩ := hB
  unfold wl_
  rw [if_pos (by decide), if_neg (by decide), List.append_nil, show (199 : Nat) = 198 + 1 from rfl, List.range_succ, List.map_append]
  congr 1
  · congr 1
    show [(ad.2 198, ce_ ad dA (sh_ 198) (h 198))] = _
    rw [sh_195]
    show [((ad.2 198, .inr (8, [.ref ad.1, .int 0, .int (Int32.ofInt (h 198 1)), .int (Int32.ofInt (h 198 0))])) : Nat × va_E)] = _
    rw [b2, b3]
    rfl
  · show [((ad.1, .inl (dA 1, (h 198 (-1)).toNat, .inl fun k => Int32.ofInt (h 198 (10 + (k : Int))))) : Nat × va_E)] = _
    rw [b1]
    congr 5
    refine congrArg Sum.inl (funext fun k => ?_)
    rw [b4 k]
    rfl
theorem wl_e1 {ad ad' : AD} {dA : Nat → ClassId} {h : PH} (e : ad'.2 = ad.2) : wl_ ad' dA 198 h = wl_ ad dA 198 h := by
  unfold wl_
  rw [if_neg (by decide), if_neg (by decide), List.append_nil, List.append_nil]
  refine List.map_congr_left fun i hi => ?_
  have hi := List.mem_range.mp hi
  rw [aa_, aa_, if_pos (by omega), if_pos (by omega), e, ce_same e dA _ (sh_14 i (by omega) (by omega))]
section SBM
variable {p : Program} {l : Launch} {e : Env} {R : Room} {s : State} {m : MethodId} {args : Array Value} {below : List Frame} {meth : Method} {c : Code} {H H0 : Heap} {locs : List Loc} {cells slots : Nat} {Q : State → Prop} {pc : Nat} {lz : Array Slot} {rest : List Value} {D : va_G} {A : Nat → Prop} {ws : va_W} {tys : List (ClassId × FieldType)}
/-- a field of it is written -/
theorem vz_put4 {cc : ByteArray} (hexec : p.tables.exec = Jvm.exec) (hb : c.code = cc) {own : String} {index a : Nat} (hts : ∀ w ∈ TBL, w.before args s = true) (hown : s.vm.findClass own = some m.cls) (hK : va_K D ucl tys s) (hP : va_P D ucl ws H) (hD : va_D A ws) (hS0 : va_S A H0 H locs) (q0 : Nat) {fs : List Value} (he : ws[q0]? = some (a, .inr (8, fs))) (k : Nat) (hk : k < 4) (hlink : (Cond.fieldLink own index (TJ4 k).1 (TJ4 k).2.1 (TJ4 k).2.2.1).before args s = true) (hfin : (TJ4 k).2.2.2 = false) {v : Value} (hn : narrow (tyJ4 k) v = v) (hfit : fits (tyJ4 k) v = true) (hl : k < fs.length) (hdg : decode cc pc = .ok (.putfield index, 3))
    (kk : ∀ (H1 : Heap) (locs1 : List Loc), va_P D ucl (ws.set q0 (a, .inr (8, fs.set k v))) H1 → va_D A (ws.set q0 (a, .inr (8, fs.set k v))) → va_S A H0 H1 locs1 → H1.size = H.size → W p l e R s m args below meth c H1 locs1 cells slots Q (F0 m (pc + 3) lz rest)) : W p l e R s m args below meth c H locs cells slots Q (F0 m pc lz (v :: .ref a :: rest)) := by
  have hap := va_apart (own := own) hts kwJ4 tyJ4 tyJ4_ok nmJ4 hK (ci := 8) rfl
  obtain ⟨r, h1, cell, q1, q2, q3, q4⟩ := hP q0 _ he
  have hr : r = (RJ4, TJ4, 4) := Option.some.inj (h1.symm.trans rfl)
  subst hr
  obtain ⟨hS, hfc, kC, hkC, hkind⟩ := hK.1 8 _ rfl
  obtain ⟨cf, kf, fi, f, hi, hsl⟩ := hS k hk
  have hlay := hts _ (kwJ4 _ (u_in_lay hk))
  unfold u_lay at hlay
  rw [if_neg (by rw [hfin]; decide)] at hlay
  have hst := (u_facts hfc hkC (u_lays hts kwJ4 hk) hi).1
  have h6 := u_store hfc hkC hkind hlay hi (tyJ4_ok k hk) hn hfit
  refine W.putK hexec hb (f := f) ⟨hown, hlink, ⟨_, _, _, hi⟩, hst⟩ (by rw [q2]; exact h6) q1 q3 (by rw [hsl]; exact k2_hasslot (q4 k hk)) rfl rfl hdg fun H' e1 e2 e3 => ?_
  rw [hsl] at e1 ⊢
  exact kk H' _ (hP.set (e := .inr (8, fs.set k v)) hD he ⟨_, rfl, t_OB.to (V := updV (vp_V fs) k v) ⟨_, e1, q2, q3, t_set q4 hap hk v⟩ (fun j _ => vp_updV_set hl v j)⟩ e3) (hD.set he) (hS0.put e2 e3 (hD.2 q0 _ he)) e2
/-- behind a call that makes it -/
theorem sb_back {s0 : State} {dA : Nat → ClassId} {ad : AD} {h : PH} {a' : Array Value} {st0 : List Value} {cl sl : Nat}
    (hr : vx_Run p l e R s m args below meth c H locs cells slots cl sl (F0 m pc lz st0) rest (QB_ s0 D dA ad h a') (fun _ _ _ => False) (own_ s0)) (hS : va_S (own_ s0) s.heap H locs)
    (kk : ∀ (ad' : AD) (H' : Heap) (locs' : List Loc), ad'.2 = ad.2 → Wd_ s0 D dA ad' 199 h H' → va_S (own_ s0) s.heap H' locs' → W p l e R s m args below meth c H' locs' (cells + cl) (slots + sl) Q (F0 m (pc + 3) lz rest)) : W p l e R s m args below meth c H locs cells slots Q (F0 m pc lz st0) := by
  intro T hT X
  rcases hr T hT X with ⟨v, st₀, t, T', Lx, h0, X', hLx, e1, e2, ⟨⟨ad', ea, hv, hWd⟩, hF⟩, stp⟩ | ⟨q, st₀, t, T', Lx, E9, ce, h0, X', hLx, e1, e2, hx, hce, hcv, hcl, stp⟩
  · cases hv
    obtain ⟨k1, k2, k3⟩ := vx_keep h0 e1 hS (fun _ _ z => z) (fun _ z => z) hLx hF
    obtain ⟨t2, a1, b1⟩ := kk ad' T'.heap (locs ++ Lx) ea (by rw [e1]; exact hWd) k3 T' rfl X'
    exact ⟨t2, stp t2 a1, b1⟩
  · exact hx.elim
end SBM
theorem c_J5_init {l : Launch} {s0 : State} {D : va_G} {dA : Nat → ClassId} {ad : AD} (hG : Gl_ l s0 D dA ad.2) {h : PH} (hB : HB_ h) : vx_Met l yJ5_init_d00df (.code yJ5_init_d00df MJ5_init.2.1 2 none :: TBL) { frames := 1, locals := 37 * 1, cells := 1, slots := 16 } (va_Pc [.ref (ad.2 198), .int 16] (fun U => s0.WarmedH U.vm ∧ WB_ s0 D dA ad h SB0 U.heap)) (QB_ s0 D dA ad h) (fun _ _ _ => False) 1 16 (own_ s0) := by
  refine vx_ofW (by decide +kernel) rfl ?_
  intro p e s m args below meth c s₁ B hml hex hpc
  obtain ⟨rfl, hal, ⟨hP, hD⟩, hb1, hb2, hb3⟩ := hpc
  have hts : ∀ w ∈ TBL, w.before (([.ref (ad.2 198), .int 16] : List Value).toArray) s = true := fun w' hw => atoms_spec (ws := .code yJ5_init_d00df MJ5_init.2.1 2 none :: TBL) B.pre w' (List.mem_cons_of_mem _ hw)
  have hl := lv_entry [.ref (ad.2 198), .int 16] (n := 2) (Nat.le_refl 2)
  have hC : Cx_ E0_ ad.2 MJ5_init 1 1 16 s0 p (headSpec (.code yJ5_init_d00df MJ5_init.2.1 2 none :: TBL) { frames := 1, locals := 37 * 1, cells := 1, slots := 16 }).room s m (([.ref (ad.2 198), .int 16] : List Value).toArray) meth c 0 0 1 16 :=
    ⟨B.exec, B.bytes, hml, findClass_of_methodNamed B.named, hts, B.returns, B.notSynchronized, hex, Nat.le_refl _, Nat.le_refl _, Nat.le_refl _, Nat.le_refl _, by omega, by omega, hal, hb1, hb2⟩
  rw [lg_entry_eq]
  have hK := Gl_K hG (cx_al hC)
  have K := kx_at hG hC
  have hS : va_S (own_ s0) s.heap s.heap [] := va_S.rf
  generalize hls : ((lg_sl [.ref (ad.2 198), .int 16] ++ List.replicate (2 - (lg_sl [.ref (ad.2 198), .int 16]).length) Slot.unset).toArray) = lz at hl ⊢
  have g0 : lz[0]? = some (.val (.ref (ad.2 198))) := hl.2.2 (0, .ref (ad.2 198)) List.mem_cons_self
  have g1 : lz[1]? = some (.val (.int 16)) := hl.2.2 (1, .int 16) (List.mem_cons_of_mem _ List.mem_cons_self)
  refine lv_aload_n (cx_ex hC) (cx_cb hC) dJ5_init_d00df_0 rfl g0 ?_
  refine W.objInit (cx_ex hC) (cx_cb hC) (cx_own hC) (cx_ts hC _ (tb_in 671 (by decide +kernel) (by decide +kernel))) (cx_ts hC _ (tb_in 108 (by decide +kernel) (by decide +kernel))) (cx_ts hC _ (tb_in 109 (by decide +kernel) (by decide +kernel))) (g := F0 m 1 lz [.ref (ad.2 198)]) rfl (hl.1.trans (cx_ml hC).symm) rfl dJ5_init_d00df_1 (Nat.le_refl 1) (Nat.le_of_ble_eq_true rfl) ?_
  refine va_gets (A := own_ s0) (C := "java/lang/String") (n := "COMPACT_STRINGS") (d := "Z") (v := .int 1) (ref := "java/lang/String") (cx_ex hC) (cx_cb hC) K.2.2.2.2.2.2.2.2.2.1 hS (cx_own hC) (cx_ts hC _ fl_J5_18) (fun _ q => q) dJ5_init_d00df_4 ?_
  refine lv_if_eq (tgt := 25) (cx_ex hC) (cx_cb hC) dJ5_init_d00df_7 rfl (fun z => absurd z (by decide)) (fun _ => ?_)
  refine lv_aload_n (cx_ex hC) (cx_cb hC) dJ5_init_d00df_10 rfl g0 ?_
  refine lv_iload_n (cx_ex hC) (cx_cb hC) dJ5_init_d00df_11 rfl g1 ?_
  refine va_newaK (atype := .byte) (cx_ex hC) (cx_cb hC) (cx_ts hC _ aq_byte) (g := F0 m 12 lz [.int 16, .ref (ad.2 198)]) rfl dJ5_init_d00df_12 rfl (N := 16) (by decide) (by decide) (by decide) (Nat.le_refl 1) (Nat.le_refl 16) rfl fun H1 cA e1 z1 o1 _ hNm => ?_
  have hcA : cA = dA 1 := Option.some.inj (hNm.symm.trans (hK.2 1 (dA 1, .byte) rfl).2)
  subst hcA
  have hkk : ∀ (k : Nat) (x : Nat × va_E), (wl_ ad dA 198 h ++ [(ad.2 198, (.inr (8, SB0) : va_E))])[k]? = some x → H1[x.1]? = s.heap[x.1]? := fun k x hx => o1 x.1 ((hP k x hx).lt)
  have hP1 : va_P D ucl ((wl_ ad dA 198 h ++ [(ad.2 198, .inr (8, SB0))]) ++ [(s.heap.size, .inl (dA 1, 16, .inl fun _ => 0))]) H1 := (hP.kept hkk).app (fun k x hx => by
    have hz : k < 1 := (List.getElem?_eq_some_iff.mp hx).1
    rw [show k = 0 by omega] at hx
    cases hx
    exact e1)
  have hD1 : va_D (own_ s0) ((wl_ ad dA 198 h ++ [(ad.2 198, .inr (8, SB0))]) ++ [(s.heap.size, .inl (dA 1, 16, .inl fun _ => 0))]) := hD.push hP rfl hb1
  have hS1 := hS.grow (by omega) o1
  have he : ∀ fs : List Value, ((wl_ ad dA 198 h ++ [(ad.2 198, (.inr (8, fs) : va_E))]) ++ [(s.heap.size, (.inl (dA 1, 16, .inl fun _ => 0) : va_E))])[198]? = some (ad.2 198, .inr (8, fs)) := fun fs => by
    rw [List.getElem?_append_left (by rw [List.length_append, wl_195l]; exact Nat.lt_succ_self 198), List.getElem?_append_right (by rw [wl_195l]; exact Nat.le_refl _), wl_195l]
    rfl
  have hset : ∀ fs gs : List Value, ((wl_ ad dA 198 h ++ [(ad.2 198, (.inr (8, fs) : va_E))]) ++ [(s.heap.size, (.inl (dA 1, 16, .inl fun _ => 0) : va_E))]).set 198 (ad.2 198, .inr (8, gs)) = (wl_ ad dA 198 h ++ [(ad.2 198, (.inr (8, gs) : va_E))]) ++ [(s.heap.size, (.inl (dA 1, 16, .inl fun _ => 0) : va_E))] := fun fs gs => by
    rw [List.set_append_left _ _ (by rw [List.length_append, wl_195l]; exact Nat.lt_succ_self 198), List.set_append_right _ _ (by rw [wl_195l]; exact Nat.le_refl _), wl_195l]
    rfl
  refine vz_put4 (cx_ex hC) (cx_cb hC) (cx_ts hC) (cx_own hC) hK hP1 hD1 hS1 198 (he _) 0 (by decide) (cx_ts hC _ fl_J5_15) rfl (v := .ref s.heap.size) rfl rfl (show 0 < 4 by decide) dJ5_init_d00df_14 ?_
  intro H2 locs2 hP2 hD2 hS2 z2
  rw [hset] at hP2 hD2
  refine lv_aload_n (cx_ex hC) (cx_cb hC) dJ5_init_d00df_17 rfl g0 ?_
  refine lv_iconst (cx_ex hC) (cx_cb hC) dJ5_init_d00df_18 rfl ?_
  refine vz_put4 (cx_ex hC) (cx_cb hC) (cx_ts hC) (cx_own hC) hK hP2 hD2 hS2 198 (he _) 1 (by decide) (cx_ts hC _ fl_J5_22) rfl (v := .int 0) rfl rfl (show 1 < 4 by decide) dJ5_init_d00df_19 ?_
  intro H3 locs3 hP3 hD3 hS3 z3
  rw [hset] at hP3 hD3
  refine lv_goto (tgt := 38) (cx_ex hC) (cx_cb hC) dJ5_init_d00df_22 rfl ?_
  have eW : wl_ (s.heap.size, ad.2) dA 199 h = (wl_ ad dA 198 h ++ [(ad.2 198, (.inr (8, [.ref s.heap.size, .int 0, .int 0, .int 0]) : va_E))]) ++ [(s.heap.size, (.inl (dA 1, 16, .inl fun _ => 0) : va_E))] := by
    rw [wl_196 hB, wl_e1 (ad := ad) (ad' := (s.heap.size, ad.2)) rfl]
  have hWd : Wd_ s0 D dA (s.heap.size, ad.2) 199 h H3 := by
    refine ⟨⟨by rw [eW]; exact hP3, by rw [eW]; exact hD3⟩, by omega, fun q hq => ?_, fun _ => ?_⟩
    · rw [hS3.2.1 q (by omega) (fun z => absurd hq (Nat.not_lt.mpr z))]
      exact hb2 q hq
    · show H3.size = s0.heap.size + 199 + 1
      omega
  refine vx_ret ?_
  exact W.vret (cx_ex hC) (cx_cb hC) ((cx_rt hC).trans rfl) (fun t ht _ => ⟨⟨(s.heap.size, ad.2), rfl, rfl, by rw [ht]; exact hWd⟩, hS3.F ht⟩) (fun q hq => hS3.2.2 q hq) dJ5_init_d00df_38 (cx_lk hC)
theorem c_J4_init {l : Launch} {s0 : State} {D : va_G} {dA : Nat → ClassId} {ad : AD} (hG : Gl_ l s0 D dA ad.2) {h : PH} (hB : HB_ h) : vx_Met l yJ4_init_da8c8 (.code yJ4_init_da8c8 MJ4_init.2.1 1 none :: TBL) { frames := 3, locals := 37 * 3, cells := 1, slots := 16 } (va_Pc [.ref (ad.2 198)] (fun U => s0.WarmedH U.vm ∧ WB_ s0 D dA ad h SB0 U.heap)) (QB_ s0 D dA ad h) (fun _ _ _ => False) 1 16 (own_ s0) := by
  refine vx_ofW (by decide +kernel) rfl ?_
  intro p e s m args below meth c s₁ B hml hex hpc
  obtain ⟨rfl, hal, hWB⟩ := hpc
  obtain ⟨⟨hP, hD⟩, hb1, hb2, hb3⟩ := id hWB
  have hts : ∀ w ∈ TBL, w.before (([.ref (ad.2 198)] : List Value).toArray) s = true := fun w' hw => atoms_spec (ws := .code yJ4_init_da8c8 MJ4_init.2.1 1 none :: TBL) B.pre w' (List.mem_cons_of_mem _ hw)
  have hl := lv_entry [.ref (ad.2 198)] (n := 1) (Nat.le_refl 1)
  have hC : Cx_ E0_ ad.2 MJ4_init 3 1 16 s0 p (headSpec (.code yJ4_init_da8c8 MJ4_init.2.1 1 none :: TBL) { frames := 3, locals := 37 * 3, cells := 1, slots := 16 }).room s m (([.ref (ad.2 198)] : List Value).toArray) meth c 0 0 1 16 :=
    ⟨B.exec, B.bytes, hml, findClass_of_methodNamed B.named, hts, B.returns, B.notSynchronized, hex, Nat.le_refl _, Nat.le_refl _, Nat.le_refl _, Nat.le_refl _, by omega, by omega, hal, hb1, hb2⟩
  rw [lg_entry_eq]
  generalize hls : ((lg_sl [.ref (ad.2 198)] ++ List.replicate (1 - (lg_sl [.ref (ad.2 198)]).length) Slot.unset).toArray) = lz at hl ⊢
  have g0 : lz[0]? = some (.val (.ref (ad.2 198))) := hl.2.2 (0, .ref (ad.2 198)) List.mem_cons_self
  refine lv_aload_n (cx_ex hC) (cx_cb hC) dJ4_init_da8c8_0 rfl g0 ?_
  refine lv_bipush (cx_ex hC) (cx_cb hC) (v := 16) dJ4_init_da8c8_1 (by decide) ?_
  have cb := cf_cb (d' := 1) (bc' := 1) (bs' := 16) hC cfJ5_init (idx := 1) (tb_in 668 (by decide +kernel) (by decide +kernel)) ⟨by decide, by decide⟩
  have hr := vx_runI (As := [.int 16]) (rest := []) (b := ad.2 198) (g := F0 m 3 lz [.int 16, .ref (ad.2 198)]) (H := s.heap) (locs := []) (below := below) (meth := meth) (cells := 0) (slots := 0) (e := e) ⟨cx_ex hC, cx_cb hC, cx_ml hC, cx_own hC, cx_ts hC⟩ (c_J5_init hG hB) ⟨cb, rfl, cx_ts hC _ (tb_in 669 (by decide +kernel) (by decide +kernel))⟩
    ⟨fun _ _ _ _ q => q, fun U hU hW' => ⟨rfl, cx_in hC hW', by rw [hU]; exact hWB⟩⟩ rfl rfl hl.1 rfl (Nat.le_of_ble_eq_true rfl) dJ4_init_da8c8_3 ⟨Nat.le_refl 1, Nat.le_refl 16⟩
  refine sb_back hr va_S.rf ?_
  intro ad' H' locs' ea hWd hS'
  refine vx_ret ?_
  exact W.vret (cx_ex hC) (cx_cb hC) ((cx_rt hC).trans rfl) (fun t ht _ => ⟨⟨ad', ea, rfl, by rw [ht]; exact hWd⟩, hS'.F ht⟩) (fun q hq => hS'.2.2 q hq) dJ4_init_da8c8_6 (cx_lk hC)
section NSB
variable {E : EP} {d bc bs b1 s1 : Nat} {Q : PQ} {L st : List PV} {h : PH}
/-- new StringBuilder() -/
theorem s_newSB (hd : 4 ≤ d) (hE : nh_ E) (hB : HB_ h) (hb : 2 ≤ bc ∧ 20 ≤ bs) (h5 : nk5_ L = true) (h6 : nk5_ st = true) (hcat : pcat_ st ≤ 6) (k : SE_ E ML_text d (bc - 2) (bs - 20) Q 7 L ((2, 198) :: st) 199 h) : SE_ E ML_text d bc bs Q 0 L st 198 h := by
  intro l s0 D dA ad p e9 R s m args below meth c H locs cells slots mc ms ls hG hC hW hL
  have hK := Gl_K hG (cx_al hC)
  have hKn := hK.1 8 _ rfl
  have hA := ad_new hG hW.1 (by decide)
  have hf := cx_f hC (bc' := 2) (bs' := 20) hb
  have hsz : H.size = s0.heap.size + 198 := hW.1.2.2.2 (by decide)
  refine W.newcK (n := 4) (C := RJ4) (cx_ex hC) (cx_cb hC) (cx_own hC) (cx_ts hC _ (tb_in 744 (by decide +kernel) (by decide +kernel))) (cx_ts hC _ (tb_in 664 (by decide +kernel) (by decide +kernel))) (cx_ts hC _ (tb_in 57 (by decide +kernel) (by decide +kernel))) (g := F0 m 0 ls (st.map (rv_ ad))) rfl dL_text_0 (by omega) (by omega) hKn.2.1 rfl fun H1 kC hkC e1 z1 o1 => ?_
  obtain ⟨⟨⟨hP, hD⟩, hb1, hb2, hb3⟩, hS⟩ := id hW
  have hkk : ∀ (k : Nat) (x : Nat × va_E), (wl_ ad dA 198 h)[k]? = some x → H1[x.1]? = H[x.1]? := fun k x hx => o1 x.1 ((hP k x hx).lt)
  have hP1 : va_P D ucl (wl_ ad dA 198 h ++ [(ad.2 198, .inr (8, SB0))]) H1 := (hP.kept hkk).app (fun k x hx => by
    have hz : k < 1 := (List.getElem?_eq_some_iff.mp hx).1
    rw [show k = 0 by omega] at hx
    cases hx
    refine ⟨_, rfl, (u_born tyJ4 (cx_ts hC) kwJ4 hKn hkC (by show H1[ad.2 198]? = _; rw [show ad.2 198 = H.size from hA]; exact e1) tyJ4_ok).to (fun j hj => ?_)⟩
    match j, hj with
    | 0, _ => rfl
    | 1, _ => rfl
    | 2, _ => rfl
    | 3, _ => rfl)
  have hD1 : va_D (own_ s0) (wl_ ad dA 198 h ++ [(ad.2 198, .inr (8, SB0))]) := hD.push hP hA (by show s0.heap.size ≤ ad.2 198; rw [show ad.2 198 = H.size from hA]; exact hb1)
  have hS1 := hS.grow (by omega) o1
  have hWB : WB_ s0 D dA ad h SB0 H1 := ⟨⟨hP1, hD1⟩, by omega, fun q hq => (o1 q (by omega)).trans (hb2 q hq), by omega⟩
  have e5 : H.size = ad.2 198 := hA.symm
  rw [e5]
  refine lv_dup (cx_ex hC) (cx_cb hC) dL_text_3 rfl ?_
  have cb := cf_cb (d' := 3) (bc' := 1) (bs' := 16) hC cfJ4_init (idx := 10) (tb_in 745 (by decide +kernel) (by decide +kernel)) ⟨by omega, by show 8 + (1 + 11) + 37 * 3 ≤ 37 * d; omega⟩
  have hr := vx_runI (As := []) (rest := .ref (ad.2 198) :: st.map (rv_ ad)) (b := ad.2 198) (g := F0 m 4 ls (.ref (ad.2 198) :: .ref (ad.2 198) :: st.map (rv_ ad))) (H := H1) (locs := locs) (below := below) (meth := meth) (cells := cells + 1) (slots := slots + 4) (e := e9) ⟨cx_ex hC, cx_cb hC, cx_ml hC, cx_own hC, cx_ts hC⟩ (c_J4_init hG hB) ⟨cb, rfl, cx_ts hC _ (tb_in 666 (by decide +kernel) (by decide +kernel))⟩
    ⟨fun _ _ _ _ q => q, fun U hU hW' => ⟨rfl, cx_in hC hW', by rw [hU]; exact hWB⟩⟩ rfl rfl hL.1 rfl (by
      have e8 := pcat_eq ad st
      show 2 * 0 + ((List.map (fun v => v.category) (Value.ref (ad.2 198) :: st.map (rv_ ad))).sum) ≤ 8
      rw [List.map_cons, List.sum_cons, e8]
      show 2 * 0 + (1 + pcat_ st) ≤ 8
      omega) dL_text_4 ⟨by omega, by omega⟩
  refine sb_back hr hS1 ?_
  intro ad' H' locs' ea hWd hS'
  have k9 := k l s0 D dA ad' p e9 R s m args below meth c H' locs' (cells + 2) (slots + 20) mc ms ls (by rw [ea]; exact hG) (by rw [ea]; exact Cx_use hC hb) ⟨hWd, hS'⟩ (by rw [as_same ea 0 h5]; exact hL)
  have q1 : Qc_ s0 D dA ad' Q.1 = Qc_ s0 D dA ad Q.1 := by unfold Qc_; rw [ea]
  have q2 : XC_ s0 D dA ad' Q.2 = XC_ s0 D dA ad Q.2 := by unfold XC_; rw [ea]
  have e7 : ((2, 198) :: st).map (rv_ ad') = .ref (ad.2 198) :: st.map (rv_ ad) := by
    rw [List.map_cons, rv_map ea h6]
    show Value.ref (ad'.2 198) :: _ = _
    rw [ea]
  rw [q1, q2, e7] at k9
  exact k9
end NSB
