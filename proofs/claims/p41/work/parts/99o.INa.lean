/-! new cells: what a constructor does -/
theorem wl_below {ad : AD} {dA : Nat → ClassId} {N : Nat} {h h' : PH} (e : ∀ x : Nat, x < N → h' x = h x) : wl_ ad dA N h' = wl_ ad dA N h := by
  unfold wl_
  congr 1
  · refine List.map_congr_left fun i hi => ?_
    rw [e i (List.mem_range.mp hi)]
  · by_cases c : iSB < N
    · rw [if_pos c, if_pos c, e iSB c]
    · rw [if_neg c, if_neg c]
section NWW
variable {s0 : State} {D : va_G} {dA : Nat → ClassId} {ad : AD} {N : Nat} {h h' : PH} {H0 H H1 : Heap} {locs : List Loc} {A : Nat → Prop}
theorem wl_snocP (hn : N ≠ 198) (h9 : N < 199) (hP : va_P D ucl (wl_ ad dA N h ++ [(ad.2 N, ce_ ad dA (sh_ N) (h N))]) H) : va_P D ucl (wl_ ad dA (N + 1) h) H := by
  rw [show ad.2 N = aa_ ad (h N) N from (if_pos h9).symm] at hP
  unfold wl_ at hP ⊢
  by_cases c : 198 < N
  · rw [if_pos (show iSB < N from c)] at hP
    rw [if_pos (show iSB < N + 1 from by show 198 < N + 1; omega), List.range_succ, List.map_append]
    exact va_P.swap hP
  · rw [if_neg (show ¬ iSB < N from c), List.append_nil] at hP
    rw [if_neg (show ¬ iSB < N + 1 from by show ¬ 198 < N + 1; omega), List.append_nil, List.range_succ, List.map_append]
    exact hP
theorem wl_snocD (hn : N ≠ 198) (h9 : N < 199) (hP : va_D A (wl_ ad dA N h ++ [(ad.2 N, ce_ ad dA (sh_ N) (h N))])) : va_D A (wl_ ad dA (N + 1) h) := by
  rw [show ad.2 N = aa_ ad (h N) N from (if_pos h9).symm] at hP
  unfold wl_ at hP ⊢
  by_cases c : 198 < N
  · rw [if_pos (show iSB < N from c)] at hP
    rw [if_pos (show iSB < N + 1 from by show 198 < N + 1; omega), List.range_succ, List.map_append]
    exact va_D.swap hP
  · rw [if_neg (show ¬ iSB < N from c), List.append_nil] at hP
    rw [if_neg (show ¬ iSB < N + 1 from by show ¬ 198 < N + 1; omega), List.append_nil, List.range_succ, List.map_append]
    exact hP
theorem va_S.grow (hS : va_S A H0 H locs) (z : H.size ≤ H1.size) (o1 : ∀ q, q < H.size → H1[q]? = H[q]?) : va_S A H0 H1 locs :=
  ⟨Nat.le_trans hS.1 z, fun x h1 h2 => (o1 x (Nat.lt_of_lt_of_le h1 hS.1)).trans (hS.2.1 x h1 h2), hS.2.2⟩
/-- one more cell -/
theorem wd_new (hW : Wd_ s0 D dA ad N h H) (hS : va_S (own_ s0) H0 H locs) (hA : ad.2 N = H.size) (hN : N < 199) (h195 : N ≠ 198) (e : ∀ x : Nat, x < N → h' x = h x) (hat : va_at D ucl (ad.2 N, ce_ ad dA (sh_ N) (h' N)) H1) (z1 : H1.size = H.size + 1) (o1 : ∀ q, q < H.size → H1[q]? = H[q]?) : Wd_ s0 D dA ad (N + 1) h' H1 ∧ va_S (own_ s0) H0 H1 locs := by
  obtain ⟨⟨hP, hD⟩, hb1, hb2, hb3⟩ := hW
  rw [← wl_below e] at hP hD
  have hk : ∀ (k : Nat) (x : Nat × va_E), (wl_ ad dA N h')[k]? = some x → H1[x.1]? = H[x.1]? := fun k x hx => o1 x.1 ((hP k x hx).lt)
  have hP1 : va_P D ucl (wl_ ad dA N h' ++ [(ad.2 N, ce_ ad dA (sh_ N) (h' N))]) H1 := (hP.kept hk).app (fun k x hx => by
    have hz : k < 1 := (List.getElem?_eq_some_iff.mp hx).1
    rw [show k = 0 by omega] at hx
    cases hx
    exact hat)
  have hD1 : va_D (own_ s0) (wl_ ad dA N h' ++ [(ad.2 N, ce_ ad dA (sh_ N) (h' N))]) := hD.push hP hA (by rw [hA]; exact hb1)
  refine ⟨⟨⟨wl_snocP h195 hN hP1, wl_snocD h195 hN hD1⟩, by omega, fun q hq => (o1 q (by omega)).trans (hb2 q hq), fun hN1 => ?_⟩, hS.grow (by omega) o1⟩
  have h3 := hb3 hN
  show H1.size = s0.heap.size + (N + 1) + (if 198 < N + 1 then 1 else 0)
  have h3 : H.size = s0.heap.size + N + (if 198 < N then 1 else 0) := h3
  by_cases c : 198 < N
  · rw [if_pos c] at h3
    rw [if_pos (by omega)]
    omega
  · rw [if_neg c] at h3
    rw [if_neg (by omega)]
    omega
end NWW
def nofl_ : FieldType → Bool
  | .float => false
  | .double => false
  | _ => true
/-- what a fresh field holds -/
def dz_ (ci k : Nat) : Int := if fk_ (fty_ ci k) = 2 then -1 else 0
theorem fv_df (ad : AD) {ty : FieldType} (hf : nofl_ ty = true) : fv_ ad (fk_ ty) (if fk_ ty = 2 then -1 else 0) = defaultValue ty := by
  cases ty <;> first | rfl | cases hf
theorem arrV_cong {c : ClassId} {n : Nat} {f g : Nat → Value} (e : ∀ j, j < n → f j = g j) : arrV c n f = arrV c n g := by
  unfold arrV
  congr 2
  funext j
  exact e j.val j.isLt
theorem vr_outer (c : ClassId) (N h0 : Nat) : ∀ i : Nat, Jvm.Free.Multi.outerC c N h0 i = arrV c N (fun j => va_rf (if j < i then some (h0 + 1 + j) else none))
  | 0 => by
    show ({ cls := c, slots := Array.replicate N .null, vm := .none } : Cell) = _
    rw [arrV_new]
    refine congrArg (arrV c N) (funext fun j => ?_)
    simp [va_rf]
  | i + 1 => by
    show (Jvm.Free.Multi.outerC c N h0 i).setSlot i (.ref (h0 + 1 + i)) = _
    rw [vr_outer c N h0 i, arrV_store]
    refine congrArg (arrV c N) (funext fun j => ?_)
    by_cases e : j = i
    · subst e
      simp [updV, va_rf]
    · by_cases h : j < i
      · simp [updV, e, h, Nat.lt_succ_of_lt h]
      · simp [updV, e, h, show ¬ j < i + 1 by omega]
/-- what holds at the start beside: rows have been made before -/
def Gi_ (s0 : State) : Prop := (Cond.arrayOver (.array .int)).before #[] s0 = true ∧ (Cond.arrayOver (.array .byte)).before #[] s0 = true
theorem over_use {ty : FieldType} {s0 s : State} (hv : s0.vm.Alike s.vm) (h : (Cond.arrayOver ty).before #[] s0 = true) (args : Array Value) : (Cond.arrayOver ty).before args s = true := by
  have e := Cond.arrayOver_setVmC (args := args) (s := s0) hv ty
  have e1 : (Cond.arrayOver ty).before args s0 = (Cond.arrayOver ty).before #[] s0 := rfl
  have e2 : (Cond.arrayOver ty).before args (s0.setVm s.vm) = (Cond.arrayOver ty).before args s := rfl
  rw [← e2, e, e1]
  exact h
abbrev E1G_ : EP := fun s0 a2 meth c => E1_ s0 a2 meth c ∧ Gi_ s0
theorem nh_1G : nh_ E1G_ := fun _ _ _ _ h => h.1.1
/-- a constructor, called with these arguments, comes to an end that owes Q -/
def CI_ (y : MethodName) (M : PM) (d bc bs : Nat) (as : List PV) (N : Nat) (h : PH) (Q : PQ) : Prop :=
  ∀ (l : Launch) (s0 : State) (D : va_G) (dA : Nat → ClassId) (ad : AD), Gl_ l s0 D dA ad.2 → Gi_ s0 →
    vx_Met l y (.code y M.2.1 M.2.2.1 M.2.2.2 :: TBL) { frames := d, locals := 37 * d, cells := bc, slots := bs } (va_Pc (as.map (rv_ ad)) (fun U => s0.WarmedH U.vm ∧ Wd_ s0 D dA ad N h U.heap)) (Qc_ s0 D dA ad Q.1) (XC_ s0 D dA ad Q.2) bc bs (own_ s0)
theorem s_enterJ {y : MethodName} {M : PM} {d bc bs : Nat} {as L : List PV} {N : Nat} {h : PH} {Q : PQ} (hp : plainName y.cls = true) (hc : y.cls = M.1) (hi : y.name = "<init>") (hn : (en_ as).length ≤ M.2.2.1) (hL : en_ as ++ List.replicate (M.2.2.1 - (en_ as).length) (9, 0) = L)
    (k : SE_ E1G_ M d bc bs Q 0 L [] N h) : CI_ y M d bc bs as N h Q := by
  intro l s0 D dA ad hG hGi
  refine vx_ofW hp rfl ?_
  intro p e s m args below meth c s₁ B hml hex hpc
  exact s_body hc hn hL k hG B hml ⟨⟨hex, hi ▸ (name_of_methodNamed B.named B.method).1⟩, hGi⟩ hpc
section NEWR
variable {E : EP} {M M' : PM} {d d' bc bs bc' bs' n : Nat} {Q : PQ} {pc idx : Nat} {L st stk as : List PV} {N : Nat} {h h' : PH} {y : MethodName}
theorem Cx_use {a2 : Int → Nat} {s0 : State} {p : Program} {R : Room} {s : State} {m : MethodId} {args : Array Value} {meth : Method} {c : Code} {cells slots mc ms x y : Nat} (hC : Cx_ E a2 M d bc bs s0 p R s m args meth c cells slots mc ms) (hb : x ≤ bc ∧ y ≤ bs) : Cx_ E a2 M d (bc - x) (bs - y) s0 p R s m args meth c (cells + x) (slots + y) mc ms := by
  obtain ⟨q1, q2, q3, q4, q5, q6, q7, q8, q9, q10, q11, q12, q13, q14, q15⟩ := hC
  exact ⟨q1, q2, q3, q4, q5, q6, q7, q8, q9, q10, q11, q12, by omega, by omega, q15⟩
theorem ad_new {l : Launch} {s0 : State} {D : va_G} {dA : Nat → ClassId} {ad : AD} {H : Heap} (hG : Gl_ l s0 D dA ad.2) (hW : Wd_ s0 D dA ad N h H) (hN : N < 199) : ad.2 N = H.size := by
  rw [hG.2.2.2 N hN, hW.2.2.2 hN]
/-- an object is made -/
theorem s_newc {ci : Nat} (hd : decode M.2.1 pc = .ok (.new idx, 3)) (hw : Cond.classLink M.1 idx (uC_ ci) ∈ TBL ∧ Cond.instantiable (uC_ ci) (uN_ ci) ∈ TBL ∧ Cond.initialized (uC_ ci) ∈ TBL) (kl : Kl_ ci) (hnf : ∀ k, k < uN_ ci → nofl_ (fty_ ci k) = true) (hs : sh_ N = (ci + 6, uN_ ci)) (hN : N < 199) (h0 : ∀ k : Nat, k < uN_ ci → h' N k = dz_ ci k) (e : ∀ x : Nat, x < N → h' x = h x) (hb : 1 ≤ bc ∧ uN_ ci ≤ bs) (k : SE_ E M d (bc - 1) (bs - uN_ ci) Q (pc + 3) L ((2, (N : Int)) :: st) (N + 1) h') : SE_ E M d bc bs Q pc L st N h := by
  intro l s0 D dA ad p e9 R s m args below meth c H locs cells slots mc ms ls hG hC hW hL
  have h195 : N ≠ 198 := fun z => by
    rw [z, sh_195] at hs
    have h1 := congrArg Prod.fst hs
    have h2 := kl.1
    simp at h1
    omega
  have hK := Gl_K hG (cx_al hC)
  have hKn := hK.1 ci _ kl.2.1
  have hA := ad_new hG hW.1 hN
  have hf := cx_f hC (bc' := 1) (bs' := uN_ ci) hb
  refine W.newcK (cx_ex hC) (cx_cb hC) (cx_own hC) (cx_ts hC _ hw.1) (cx_ts hC _ hw.2.1) (cx_ts hC _ hw.2.2) (g := F0 m pc ls (st.map (rv_ ad))) rfl hd hf.1 hf.2 hKn.2.1 rfl fun H1 kC hkC e1 z1 o1 => ?_
  have hat : va_at D ucl (ad.2 N, ce_ ad dA (sh_ N) (h' N)) H1 := by
    rw [hs, ce_obj _ _ _ _ _ kl.1, hA]
    refine ⟨_, kl.2.1, (u_born (fty_ ci) (cx_ts hC) kl.2.2.1 hKn hkC e1 kl.2.2.2.1).to (fun j hj => ?_)⟩
    show _ = List.getD _ _ _
    rw [List.getD_eq_getElem?_getD, rng_at _ hj, Option.getD_some, h0 j hj]
    exact (fv_df ad (hnf j hj)).symm
  have k9 := k l s0 D dA ad p e9 R s m args below meth c H1 locs (cells + 1) (slots + uN_ ci) mc ms ls hG (Cx_use hC hb) (wd_new hW.1 hW.2 hA hN h195 e hat z1 o1) hL
  have e5 : rv_ ad (2, (N : Int)) = .ref H.size := by
    show Value.ref (ad.2 N) = _
    rw [hA]
  rw [List.map_cons, e5] at k9
  exact k9
/-- an array of numbers is made -/
theorem s_newarK {at9 : ArrayType} {t n' : Nat} {n : Int} (hd : decode M.2.1 pc = .ok (.newarray at9, 2)) (hw : Cond.arrayClass (newarray.typeOf at9) ∈ TBL) (hcl : ∀ (dA : Nat → ClassId) (s : State) (D : va_G) (cA : ClassId), va_K D ucl (tys_ dA) s → s.vm.findClass ("[" ++ (newarray.typeOf at9).toString) = some cA → cA = dA t)
    (hce : ∀ (ad : AD) (dA : Nat → ClassId) (D : va_G) (q : Nat) (H1 : Heap), H1[q]? = some (arrV (dA t) n' (fun _ => defaultValue (newarray.typeOf at9))) → va_at D ucl (q, ce_ ad dA (sh_ N) (h' N)) H1) (hcb : componentBytes (newarray.typeOf at9) ≤ 8) (hn : (n' : Int) = n) (hn9 : n' ≤ 1000) (hN : N < 199) (h195 : N ≠ 198) (e : ∀ x : Nat, x < N → h' x = h x) (hb : 1 ≤ bc ∧ n' ≤ bs) (k : SE_ E M d (bc - 1) (bs - n') Q (pc + 2) L ((2, (N : Int)) :: st) (N + 1) h') : SE_ E M d bc bs Q pc L ((0, n) :: st) N h := by
  subst hn
  intro l s0 D dA ad p e9 R s m args below meth c H locs cells slots mc ms ls hG hC hW hL
  have hK := Gl_K hG (cx_al hC)
  have hA := ad_new hG hW.1 hN
  have hf := cx_f hC (bc' := 1) (bs' := n') hb
  refine va_newaK (cx_ex hC) (cx_cb hC) (cx_ts hC _ hw) (g := F0 m pc ls (Value.int (Int32.ofInt (n' : Int)) :: st.map (rv_ ad))) rfl hd rfl (N := n') (fun z => ?_) (by rw [pI_cl (i := (n' : Int)) (by omega) (by omega)]; simp) (by
    have : n' * componentBytes (newarray.typeOf at9) ≤ 1000 * 8 := Nat.mul_le_mul hn9 hcb
    omega) hf.1 hf.2 rfl fun H1 cA e1 z1 o1 _ hNm => ?_
  · have h1 := (pI_lt (x := (n' : Int)) (y := 0) ⟨by omega, by omega⟩ inI0).mp z
    omega
  have hcA := hcl dA s D cA hK hNm
  subst hcA
  have k9 := k l s0 D dA ad p e9 R s m args below meth c H1 locs (cells + 1) (slots + n') mc ms ls hG (Cx_use hC hb) (wd_new hW.1 hW.2 hA hN h195 e (by rw [hA]; exact hce ad dA D H.size H1 e1) z1 o1) hL
  have e5 : rv_ ad (2, (N : Int)) = .ref H.size := by
    show Value.ref (ad.2 N) = _
    rw [hA]
  rw [List.map_cons, e5] at k9
  exact k9
theorem ne195_ {t n' : Nat} (hs : sh_ N = (t, n')) (ht : t ≤ 5) : N ≠ 198 := fun z => by
  rw [z, sh_195] at hs
  have h1 : 14 = t := congrArg Prod.fst hs
  omega
theorem s_newari {n' : Nat} {n : Int} (hd : decode M.2.1 pc = .ok (.newarray .int, 2)) (hw : Cond.arrayClass .int ∈ TBL) (hs : sh_ N = (0, n')) (h0 : ∀ k : Nat, h' N k = 0) (hn : (n' : Int) = n) (hn9 : n' ≤ 1000) (hN : N < 199) (e : ∀ x : Nat, x < N → h' x = h x) (hb : 1 ≤ bc ∧ n' ≤ bs) (k : SE_ E M d (bc - 1) (bs - n') Q (pc + 2) L ((2, (N : Int)) :: st) (N + 1) h') : SE_ E M d bc bs Q pc L ((0, n) :: st) N h := by
  refine s_newarK (t := 0) (n' := n') hd hw (fun dA s D cA hK hf => ?_) (fun ad dA D q H1 e1 => ?_) (by decide) hn hn9 hN (ne195_ hs (by decide)) e hb k
  · have h1 := (hK.2 0 (dA 0, .int) rfl).2
    exact Option.some.inj (hf.symm.trans h1)
  · rw [hs]
    show H1[q]? = some (arrV (dA 0) n' (fun j => Value.int (Int32.ofInt (h' N j))))
    rw [e1]
    refine congrArg some (arrV_cong fun j _ => ?_)
    rw [h0 j]
    rfl
theorem s_newarb {n' : Nat} {n : Int} (hd : decode M.2.1 pc = .ok (.newarray .byte, 2)) (hw : Cond.arrayClass .byte ∈ TBL) (hs : sh_ N = (1, n')) (h0 : ∀ k : Nat, h' N k = 0) (hn : (n' : Int) = n) (hn9 : n' ≤ 1000) (hN : N < 199) (e : ∀ x : Nat, x < N → h' x = h x) (hb : 1 ≤ bc ∧ n' ≤ bs) (k : SE_ E M d (bc - 1) (bs - n') Q (pc + 2) L ((2, (N : Int)) :: st) (N + 1) h') : SE_ E M d bc bs Q pc L ((0, n) :: st) N h := by
  refine s_newarK (t := 1) (n' := n') hd hw (fun dA s D cA hK hf => ?_) (fun ad dA D q H1 e1 => ?_) (by decide) hn hn9 hN (ne195_ hs (by decide)) e hb k
  · have h1 := (hK.2 1 (dA 1, .byte) rfl).2
    exact Option.some.inj (hf.symm.trans h1)
  · rw [hs]
    show H1[q]? = some (arrV (dA 1) n' (fun j => Value.int (Int32.ofInt (h' N j))))
    rw [e1]
    refine congrArg some (arrV_cong fun j _ => ?_)
    rw [h0 j]
    rfl
theorem s_newarz {n' : Nat} {n : Int} (hd : decode M.2.1 pc = .ok (.newarray .boolean, 2)) (hw : Cond.arrayClass .boolean ∈ TBL) (hs : sh_ N = (2, n')) (h0 : ∀ k : Nat, h' N k = 0) (hn : (n' : Int) = n) (hn9 : n' ≤ 1000) (hN : N < 199) (e : ∀ x : Nat, x < N → h' x = h x) (hb : 1 ≤ bc ∧ n' ≤ bs) (k : SE_ E M d (bc - 1) (bs - n') Q (pc + 2) L ((2, (N : Int)) :: st) (N + 1) h') : SE_ E M d bc bs Q pc L ((0, n) :: st) N h := by
  refine s_newarK (t := 2) (n' := n') hd hw (fun dA s D cA hK hf => ?_) (fun ad dA D q H1 e1 => ?_) (by decide) hn hn9 hN (ne195_ hs (by decide)) e hb k
  · have h1 := (hK.2 2 (dA 2, .boolean) rfl).2
    exact Option.some.inj (hf.symm.trans h1)
  · rw [hs]
    show H1[q]? = some (arrV (dA 2) n' (fun j => Value.int (Int32.ofInt (h' N j))))
    rw [e1]
    refine congrArg some (arrV_cong fun j _ => ?_)
    rw [h0 j]
    rfl
theorem s_newarl {n' : Nat} {n : Int} (hd : decode M.2.1 pc = .ok (.newarray .long, 2)) (hw : Cond.arrayClass .long ∈ TBL) (hs : sh_ N = (3, n')) (h0 : ∀ k : Nat, h' N k = 0) (hn : (n' : Int) = n) (hn9 : n' ≤ 1000) (hN : N < 199) (e : ∀ x : Nat, x < N → h' x = h x) (hb : 1 ≤ bc ∧ n' ≤ bs) (k : SE_ E M d (bc - 1) (bs - n') Q (pc + 2) L ((2, (N : Int)) :: st) (N + 1) h') : SE_ E M d bc bs Q pc L ((0, n) :: st) N h := by
  refine s_newarK (t := 3) (n' := n') hd hw (fun dA s D cA hK hf => ?_) (fun ad dA D q H1 e1 => ?_) (by decide) hn hn9 hN (ne195_ hs (by decide)) e hb k
  · have h1 := (hK.2 3 (dA 3, .long) rfl).2
    exact Option.some.inj (hf.symm.trans h1)
  · rw [hs]
    show H1[q]? = some (arrV (dA 3) n' (fun j => Value.long (Int64.ofInt (h' N j))))
    rw [e1]
    refine congrArg some (arrV_cong fun j _ => ?_)
    rw [h0 j]
    rfl
/-- rows are made: an array of arrays -/
theorem s_multii {n' k' : Nat} {n k : Int} (hd : decode M.2.1 pc = .ok (.multianewarray idx 2, 4)) (hEG : ∀ s0 a2 meth c, E s0 a2 meth c → Gi_ s0) (hw : Cond.classLink M.1 idx ("[" ++ (FieldType.array .int).toString) ∈ TBL ∧ Cond.arrayClass .int ∈ TBL) (hs : sh_ N = (4, n')) (hs1 : ∀ j : Nat, j < n' → sh_ (N + 1 + j) = (0, k')) (h0 : ∀ j : Nat, j < n' → h' N j = ((N + 1 + j : Nat) : Int)) (h1 : ∀ j : Nat, j < n' → ∀ i : Nat, h' ((N + 1 + j : Nat) : Int) i = 0) (hn : (n' : Int) = n) (hk : (k' : Int) = k) (hn9 : n' ≤ 1000 ∧ k' ≤ 1000) (hN : N + 1 + n' ≤ 198) (e : ∀ x : Nat, x < N → h' x = h x) (hb : 1 + n' ≤ bc ∧ n' + n' * k' ≤ bs) (kk : SE_ E M d (bc - (1 + n')) (bs - (n' + n' * k')) Q (pc + 4) L ((2, (N : Int)) :: st) (N + (1 + n')) h') : SE_ E M d bc bs Q pc L ((0, k) :: (0, n) :: st) N h := by
  subst hn
  subst hk
  intro l s0 D dA ad p e9 R s m args below meth c H locs cells slots mc ms ls hG hC hW hL
  have hK := Gl_K hG (cx_al hC)
  have hA := ad_new hG hW.1 (by omega)
  have hf := cx_f hC (bc' := 1 + n') (bs' := n' + n' * k') hb
  have hcb : k' * componentBytes .int ≤ 536870912 := by
    have h5 : componentBytes .int ≤ 8 := by decide
    have := Nat.mul_le_mul hn9.2 h5
    omega
  refine w_multi (cx_ex hC) (cx_cb hC) (cx_own hC) (cx_ts hC _ hw.1) (over_use (cx_al hC) (hEG _ _ _ _ (cx_e hC)).1 args) (cx_ts hC _ hw.2) (N' := n') (K' := k') (fun z => ?_) (fun z => ?_) (by rw [pI_cl (i := (n' : Int)) (by omega) (by omega)]; simp) (by rw [pI_cl (i := (k' : Int)) (by omega) (by omega)]; simp) (by omega) hcb (by omega) rfl rfl (by omega) (by omega) hd fun cA comp H1 f1 f2 z1 o1 eO eI => ?_
  · have h2 := (pI_lt (x := (n' : Int)) (y := 0) ⟨by omega, by omega⟩ inI0).mp z
    omega
  · have h2 := (pI_lt (x := (k' : Int)) (y := 0) ⟨by omega, by omega⟩ inI0).mp z
    omega
  have c1 : cA = dA 4 := Option.some.inj (f1.symm.trans (hK.2 4 (dA 4, .array .int) rfl).2)
  have c2 : comp = dA 0 := Option.some.inj (f2.symm.trans (hK.2 0 (dA 0, .int) rfl).2)
  subst c1
  subst c2
  obtain ⟨⟨⟨hP, hD⟩, hb1, hb2, hb3⟩, hS⟩ := id hW
  have hsz : H.size = s0.heap.size + N := by
    have h3 := hb3 (by omega)
    rw [if_neg (show ¬ iSB < N from by show ¬ 198 < N; omega)] at h3
    exact h3
  have hA2 : ∀ j : Nat, j ≤ n' → ad.2 ((N + j : Nat) : Int) = H.size + j := fun j hj => by
    have h3 := hG.2.2.2 (N + j) (by omega)
    rw [if_neg (show ¬ iSB < N + j from by show ¬ 198 < N + j; omega)] at h3
    rw [h3, hsz]
    omega
  have ew : ∀ j : Nat, wl_ ad dA (N + j) h' = wl_ ad dA (N + j) h' := fun _ => rfl
  have at0 : va_at D ucl (ad.2 N, ce_ ad dA (sh_ N) (h' N)) H1 := by
    rw [hs, hA]
    show H1[H.size]? = some (arrV (dA 4) n' (fun j => va_rf (rf_ ad (h' N j))))
    rw [eO, vr_outer]
    refine congrArg some (arrV_cong fun j hj => ?_)
    rw [if_pos hj, h0 j hj]
    show va_rf _ = va_rf (rf_ ad _)
    rw [rf_, if_neg (by omega), show N + 1 + j = N + (1 + j) by omega, hA2 (1 + j) (by omega), show H.size + 1 + j = H.size + (1 + j) by omega]
  have at1 : ∀ j : Nat, j < n' → va_at D ucl (ad.2 ((N + 1 + j : Nat) : Int), ce_ ad dA (sh_ (N + 1 + j)) (h' ((N + 1 + j : Nat) : Int))) H1 := fun j hj => by
    have a9 : ad.2 ((N + 1 + j : Nat) : Int) = H.size + 1 + j := by
      rw [show N + 1 + j = N + (1 + j) by omega, hA2 (1 + j) (by omega)]
      omega
    rw [hs1 j hj, a9]
    show H1[H.size + 1 + j]? = some (arrV (dA 0) k' (fun i => Value.int (Int32.ofInt (h' ((N + 1 + j : Nat) : Int) i))))
    rw [eI j hj]
    refine congrArg some ((arrV_new _ _ _).trans (arrV_cong fun i _ => ?_))
    rw [h1 j hj i]
    rfl
  have hk9 : ∀ (k : Nat) (x : Nat × va_E), (wl_ ad dA N h')[k]? = some x → H1[x.1]? = H[x.1]? := fun k x hx => o1 x.1 (by rw [wl_below e] at hx; exact (hP k x hx).lt)
  have hP0 : va_P D ucl (wl_ ad dA N h') H1 := by
    refine va_P.kept (H := H) ?_ hk9
    rw [wl_below e]
    exact hP
  have hD0 : va_D (own_ s0) (wl_ ad dA N h') := by
    rw [wl_below e]
    exact hD
  have hlt : ∀ (k : Nat) (x : Nat × va_E), (wl_ ad dA N h')[k]? = some x → x.1 < H.size := fun k x hx => by
    rw [wl_below e] at hx
    exact (hP k x hx).lt
  have hin : ∀ j : Nat, j ≤ n' → va_P D ucl (wl_ ad dA (N + (1 + j)) h') H1 ∧ va_D (own_ s0) (wl_ ad dA (N + (1 + j)) h') ∧ ∀ (k : Nat) (x : Nat × va_E), (wl_ ad dA (N + (1 + j)) h')[k]? = some x → x.1 < H.size + 1 + j := by
    have step : ∀ (n9 q9 : Nat), n9 < 198 → va_P D ucl (wl_ ad dA n9 h') H1 → va_D (own_ s0) (wl_ ad dA n9 h') → (∀ (k : Nat) (x : Nat × va_E), (wl_ ad dA n9 h')[k]? = some x → x.1 < q9) → ad.2 n9 = q9 → s0.heap.size ≤ q9 → va_at D ucl (ad.2 n9, ce_ ad dA (sh_ n9) (h' n9)) H1 → va_P D ucl (wl_ ad dA (n9 + 1) h') H1 ∧ va_D (own_ s0) (wl_ ad dA (n9 + 1) h') ∧ ∀ (k : Nat) (x : Nat × va_E), (wl_ ad dA (n9 + 1) h')[k]? = some x → x.1 < q9 + 1 := by
      intro n9 q9 hn9' p1 p2 p3 p4 p5 p6
      have one : ∀ (k : Nat) (x : Nat × va_E), [(ad.2 n9, ce_ ad dA (sh_ n9) (h' n9))][k]? = some x → x = (ad.2 n9, ce_ ad dA (sh_ n9) (h' n9)) := fun k x hx => by
        have hz : k < 1 := (List.getElem?_eq_some_iff.mp hx).1
        rw [show k = 0 by omega] at hx
        cases hx
        rfl
      refine ⟨wl_snocP (by omega) (by omega) (p1.app fun k x hx => by rw [one k x hx]; exact p6), wl_snocD (by omega) (by omega) (p2.app ⟨fun i j a b ha hb _ => ?_, fun k x hx => ?_⟩ fun i j a b ha hb => ?_), fun k x hx => ?_⟩
      · have h5 := (List.getElem?_eq_some_iff.mp ha).1
        have h6 := (List.getElem?_eq_some_iff.mp hb).1
        simp at h5 h6
        omega
      · rw [one k x hx]
        show s0.heap.size ≤ ad.2 n9
        omega
      · have h5 := p3 i a ha
        rw [one j b hb]
        show a.1 ≠ ad.2 n9
        omega
      · have e9 : wl_ ad dA (n9 + 1) h' = wl_ ad dA n9 h' ++ [(ad.2 n9, ce_ ad dA (sh_ n9) (h' n9))] := by
          unfold wl_
          rw [if_neg (show ¬ iSB < n9 + 1 from by show ¬ 198 < n9 + 1; omega), if_neg (show ¬ iSB < n9 from by show ¬ 198 < n9; omega), List.append_nil, List.append_nil, List.range_succ, List.map_append]
          congr 1
          show [(aa_ ad (h' n9) n9, ce_ ad dA (sh_ n9) (h' n9))] = _
          rw [aa_, if_pos (by omega)]
        rw [e9] at hx
        by_cases hl : k < (wl_ ad dA n9 h').length
        · rw [List.getElem?_append_left hl] at hx
          have := p3 k x hx
          omega
        · rw [List.getElem?_append_right (by omega)] at hx
          rw [one _ x hx]
          show ad.2 n9 < q9 + 1
          omega
    intro j
    induction j with
    | zero =>
      intro _
      exact step N H.size (by omega) hP0 hD0 hlt hA (by omega) at0
    | succ j ih =>
      intro hj
      obtain ⟨i1, i2, i3⟩ := ih (by omega)
      have h7 := step (N + (1 + j)) (H.size + 1 + j) (by omega) i1 i2 i3 (by rw [hA2 (1 + j) (by omega)]; omega) (by omega) (by
        have := at1 j (by omega)
        rw [show N + 1 + j = N + (1 + j) by omega] at this
        exact this)
      exact h7
  obtain ⟨i1, i2, -⟩ := hin n' (Nat.le_refl _)
  have hw1 : Wd_ s0 D dA ad (N + (1 + n')) h' H1 ∧ va_S (own_ s0) s.heap H1 locs := by
    refine ⟨⟨⟨i1, i2⟩, by omega, fun q hq => (o1 q (by omega)).trans (hb2 q hq), fun _ => ?_⟩, hS.grow (by omega) o1⟩
    rw [if_neg (show ¬ iSB < N + (1 + n') from by show ¬ 198 < N + (1 + n'); omega)]
    omega
  have k9 := kk l s0 D dA ad p e9 R s m args below meth c H1 locs (cells + (1 + n')) (slots + (n' + n' * k')) mc ms ls hG (Cx_use hC hb) hw1 hL
  have e5 : rv_ ad (2, (N : Int)) = .ref H.size := by
    show Value.ref (ad.2 N) = _
    rw [hA]
  rw [List.map_cons, e5] at k9
  rw [show cells + 1 + n' = cells + (1 + n') by omega, show slots + n' + n' * k' = slots + (n' + n' * k') by omega]
  exact k9
/-- rows are made: an array of arrays -/
theorem s_multib {n' k' : Nat} {n k : Int} (hd : decode M.2.1 pc = .ok (.multianewarray idx 2, 4)) (hEG : ∀ s0 a2 meth c, E s0 a2 meth c → Gi_ s0) (hw : Cond.classLink M.1 idx ("[" ++ (FieldType.array .byte).toString) ∈ TBL ∧ Cond.arrayClass .byte ∈ TBL) (hs : sh_ N = (5, n')) (hs1 : ∀ j : Nat, j < n' → sh_ (N + 1 + j) = (1, k')) (h0 : ∀ j : Nat, j < n' → h' N j = ((N + 1 + j : Nat) : Int)) (h1 : ∀ j : Nat, j < n' → ∀ i : Nat, h' ((N + 1 + j : Nat) : Int) i = 0) (hn : (n' : Int) = n) (hk : (k' : Int) = k) (hn9 : n' ≤ 1000 ∧ k' ≤ 1000) (hN : N + 1 + n' ≤ 198) (e : ∀ x : Nat, x < N → h' x = h x) (hb : 1 + n' ≤ bc ∧ n' + n' * k' ≤ bs) (kk : SE_ E M d (bc - (1 + n')) (bs - (n' + n' * k')) Q (pc + 4) L ((2, (N : Int)) :: st) (N + (1 + n')) h') : SE_ E M d bc bs Q pc L ((0, k) :: (0, n) :: st) N h := by
  subst hn
  subst hk
  intro l s0 D dA ad p e9 R s m args below meth c H locs cells slots mc ms ls hG hC hW hL
  have hK := Gl_K hG (cx_al hC)
  have hA := ad_new hG hW.1 (by omega)
  have hf := cx_f hC (bc' := 1 + n') (bs' := n' + n' * k') hb
  have hcb : k' * componentBytes .byte ≤ 536870912 := by
    have h5 : componentBytes .byte ≤ 8 := by decide
    have := Nat.mul_le_mul hn9.2 h5
    omega
  refine w_multi (cx_ex hC) (cx_cb hC) (cx_own hC) (cx_ts hC _ hw.1) (over_use (cx_al hC) (hEG _ _ _ _ (cx_e hC)).2 args) (cx_ts hC _ hw.2) (N' := n') (K' := k') (fun z => ?_) (fun z => ?_) (by rw [pI_cl (i := (n' : Int)) (by omega) (by omega)]; simp) (by rw [pI_cl (i := (k' : Int)) (by omega) (by omega)]; simp) (by omega) hcb (by omega) rfl rfl (by omega) (by omega) hd fun cA comp H1 f1 f2 z1 o1 eO eI => ?_
  · have h2 := (pI_lt (x := (n' : Int)) (y := 0) ⟨by omega, by omega⟩ inI0).mp z
    omega
  · have h2 := (pI_lt (x := (k' : Int)) (y := 0) ⟨by omega, by omega⟩ inI0).mp z
    omega
  have c1 : cA = dA 5 := Option.some.inj (f1.symm.trans (hK.2 5 (dA 5, .array .byte) rfl).2)
  have c2 : comp = dA 1 := Option.some.inj (f2.symm.trans (hK.2 1 (dA 1, .byte) rfl).2)
  subst c1
  subst c2
  obtain ⟨⟨⟨hP, hD⟩, hb1, hb2, hb3⟩, hS⟩ := id hW
  have hsz : H.size = s0.heap.size + N := by
    have h3 := hb3 (by omega)
    rw [if_neg (show ¬ iSB < N from by show ¬ 198 < N; omega)] at h3
    exact h3
  have hA2 : ∀ j : Nat, j ≤ n' → ad.2 ((N + j : Nat) : Int) = H.size + j := fun j hj => by
    have h3 := hG.2.2.2 (N + j) (by omega)
    rw [if_neg (show ¬ iSB < N + j from by show ¬ 198 < N + j; omega)] at h3
    rw [h3, hsz]
    omega
  have ew : ∀ j : Nat, wl_ ad dA (N + j) h' = wl_ ad dA (N + j) h' := fun _ => rfl
  have at0 : va_at D ucl (ad.2 N, ce_ ad dA (sh_ N) (h' N)) H1 := by
    rw [hs, hA]
    show H1[H.size]? = some (arrV (dA 5) n' (fun j => va_rf (rf_ ad (h' N j))))
    rw [eO, vr_outer]
    refine congrArg some (arrV_cong fun j hj => ?_)
    rw [if_pos hj, h0 j hj]
    show va_rf _ = va_rf (rf_ ad _)
    rw [rf_, if_neg (by omega), show N + 1 + j = N + (1 + j) by omega, hA2 (1 + j) (by omega), show H.size + 1 + j = H.size + (1 + j) by omega]
  have at1 : ∀ j : Nat, j < n' → va_at D ucl (ad.2 ((N + 1 + j : Nat) : Int), ce_ ad dA (sh_ (N + 1 + j)) (h' ((N + 1 + j : Nat) : Int))) H1 := fun j hj => by
    have a9 : ad.2 ((N + 1 + j : Nat) : Int) = H.size + 1 + j := by
      rw [show N + 1 + j = N + (1 + j) by omega, hA2 (1 + j) (by omega)]
      omega
    rw [hs1 j hj, a9]
    show H1[H.size + 1 + j]? = some (arrV (dA 1) k' (fun i => Value.int (Int32.ofInt (h' ((N + 1 + j : Nat) : Int) i))))
    rw [eI j hj]
    refine congrArg some ((arrV_new _ _ _).trans (arrV_cong fun i _ => ?_))
    rw [h1 j hj i]
    rfl
  have hk9 : ∀ (k : Nat) (x : Nat × va_E), (wl_ ad dA N h')[k]? = some x → H1[x.1]? = H[x.1]? := fun k x hx => o1 x.1 (by rw [wl_below e] at hx; exact (hP k x hx).lt)
  have hP0 : va_P D ucl (wl_ ad dA N h') H1 := by
    refine va_P.kept (H := H) ?_ hk9
    rw [wl_below e]
    exact hP
  have hD0 : va_D (own_ s0) (wl_ ad dA N h') := by
    rw [wl_below e]
    exact hD
  have hlt : ∀ (k : Nat) (x : Nat × va_E), (wl_ ad dA N h')[k]? = some x → x.1 < H.size := fun k x hx => by
    rw [wl_below e] at hx
    exact (hP k x hx).lt
  have hin : ∀ j : Nat, j ≤ n' → va_P D ucl (wl_ ad dA (N + (1 + j)) h') H1 ∧ va_D (own_ s0) (wl_ ad dA (N + (1 + j)) h') ∧ ∀ (k : Nat) (x : Nat × va_E), (wl_ ad dA (N + (1 + j)) h')[k]? = some x → x.1 < H.size + 1 + j := by
    have step : ∀ (n9 q9 : Nat), n9 < 198 → va_P D ucl (wl_ ad dA n9 h') H1 → va_D (own_ s0) (wl_ ad dA n9 h') → (∀ (k : Nat) (x : Nat × va_E), (wl_ ad dA n9 h')[k]? = some x → x.1 < q9) → ad.2 n9 = q9 → s0.heap.size ≤ q9 → va_at D ucl (ad.2 n9, ce_ ad dA (sh_ n9) (h' n9)) H1 → va_P D ucl (wl_ ad dA (n9 + 1) h') H1 ∧ va_D (own_ s0) (wl_ ad dA (n9 + 1) h') ∧ ∀ (k : Nat) (x : Nat × va_E), (wl_ ad dA (n9 + 1) h')[k]? = some x → x.1 < q9 + 1 := by
      intro n9 q9 hn9' p1 p2 p3 p4 p5 p6
      have one : ∀ (k : Nat) (x : Nat × va_E), [(ad.2 n9, ce_ ad dA (sh_ n9) (h' n9))][k]? = some x → x = (ad.2 n9, ce_ ad dA (sh_ n9) (h' n9)) := fun k x hx => by
        have hz : k < 1 := (List.getElem?_eq_some_iff.mp hx).1
        rw [show k = 0 by omega] at hx
        cases hx
        rfl
      refine ⟨wl_snocP (by omega) (by omega) (p1.app fun k x hx => by rw [one k x hx]; exact p6), wl_snocD (by omega) (by omega) (p2.app ⟨fun i j a b ha hb _ => ?_, fun k x hx => ?_⟩ fun i j a b ha hb => ?_), fun k x hx => ?_⟩
      · have h5 := (List.getElem?_eq_some_iff.mp ha).1
        have h6 := (List.getElem?_eq_some_iff.mp hb).1
        simp at h5 h6
        omega
      · rw [one k x hx]
        show s0.heap.size ≤ ad.2 n9
        omega
      · have h5 := p3 i a ha
        rw [one j b hb]
        show a.1 ≠ ad.2 n9
        omega
      · have e9 : wl_ ad dA (n9 + 1) h' = wl_ ad dA n9 h' ++ [(ad.2 n9, ce_ ad dA (sh_ n9) (h' n9))] := by
          unfold wl_
          rw [if_neg (show ¬ iSB < n9 + 1 from by show ¬ 198 < n9 + 1; omega), if_neg (show ¬ iSB < n9 from by show ¬ 198 < n9; omega), List.append_nil, List.append_nil, List.range_succ, List.map_append]
          congr 1
          show [(aa_ ad (h' n9) n9, ce_ ad dA (sh_ n9) (h' n9))] = _
          rw [aa_, if_pos (by omega)]
        rw [e9] at hx
        by_cases hl : k < (wl_ ad dA n9 h').length
        · rw [List.getElem?_append_left hl] at hx
          have := p3 k x hx
          omega
        · rw [List.getElem?_append_right (by omega)] at hx
          rw [one _ x hx]
          show ad.2 n9 < q9 + 1
          omega
    intro j
    induction j with
    | zero =>
      intro _
      exact step N H.size (by omega) hP0 hD0 hlt hA (by omega) at0
    | succ j ih =>
      intro hj
      obtain ⟨i1, i2, i3⟩ := ih (by omega)
      have h7 := step (N + (1 + j)) (H.size + 1 + j) (by omega) i1 i2 i3 (by rw [hA2 (1 + j) (by omega)]; omega) (by omega) (by
        have := at1 j (by omega)
        rw [show N + 1 + j = N + (1 + j) by omega] at this
        exact this)
      exact h7
  obtain ⟨i1, i2, -⟩ := hin n' (Nat.le_refl _)
  have hw1 : Wd_ s0 D dA ad (N + (1 + n')) h' H1 ∧ va_S (own_ s0) s.heap H1 locs := by
    refine ⟨⟨⟨i1, i2⟩, by omega, fun q hq => (o1 q (by omega)).trans (hb2 q hq), fun _ => ?_⟩, hS.grow (by omega) o1⟩
    rw [if_neg (show ¬ iSB < N + (1 + n') from by show ¬ 198 < N + (1 + n'); omega)]
    omega
  have k9 := kk l s0 D dA ad p e9 R s m args below meth c H1 locs (cells + (1 + n')) (slots + (n' + n' * k')) mc ms ls hG (Cx_use hC hb) hw1 hL
  have e5 : rv_ ad (2, (N : Int)) = .ref H.size := by
    show Value.ref (ad.2 N) = _
    rw [hA]
  rw [List.map_cons, e5] at k9
  rw [show cells + 1 + n' = cells + (1 + n') by omega, show slots + n' + n' * k' = slots + (n' + n' * k') by omega]
  exact k9
/-- java.lang.Object's own -/
theorem s_objI {a : Int} (hd : decode M.2.1 pc = .ok (.invokespecial idx, 3)) (hw : Cond.methodLink M.1 idx Lib.objectInit ∈ TBL ∧ Cond.instanceMethod Lib.objectInit ∈ TBL ∧ Cond.code Lib.objectInit ⟨#[0xb1]⟩ 1 none ∈ TBL) (h1 : 1 ≤ d) (hcat : pcat_ st ≤ 8) (k : SE_ E M d bc bs Q (pc + 3) L st N h) : SE_ E M d bc bs Q pc L ((2, a) :: st) N h := by
  intro l s0 D dA ad p e9 R s m args below meth c H locs cells slots mc ms ls hG hC hW hL
  have hlo := cx_lo hC
  exact W.objInit (cx_ex hC) (cx_cb hC) (cx_own hC) (cx_ts hC _ hw.1) (cx_ts hC _ hw.2.1) (cx_ts hC _ hw.2.2) (g := F0 m pc ls (((2, a) :: st).map (rv_ ad))) rfl (hL.1.trans (cx_ml hC).symm) rfl hd (Nat.le_trans h1 (cx_fr hC)) (by have := pcat_eq ad st; show 2 * 0 + _ + 12 ≤ _; omega) (k l s0 D dA ad p e9 R s m args below meth c H locs cells slots mc ms ls hG hC hW hL)
/-- a cell is written: how many there are stays -/
theorem Wd_putN {s0 s : State} {D : va_G} {dA : Nat → ClassId} {ad : AD} {H H1 : Heap} {locs1 : List Loc} (hz : s0.heap.size ≤ s.heap.size) (hs : ∀ q : Nat, q < s0.heap.size → s.heap[q]? = s0.heap[q]?) (hW : Wd_ s0 D dA ad N h H) (z1 : H1.size = H.size) (hP : va_P D ucl (wl_ ad dA N h') H1) (hD : va_D (own_ s0) (wl_ ad dA N h')) (hS : va_S (own_ s0) s.heap H1 locs1) : Wd_ s0 D dA ad N h' H1 ∧ va_S (own_ s0) s.heap H1 locs1 := by
  refine ⟨⟨⟨hP, hD⟩, Nat.le_trans hz hS.1, fun q hq => ?_, fun x => z1.trans (hW.2.2.2 x)⟩, hS⟩
  rw [hS.2.1 q (Nat.lt_of_lt_of_le hq hz) (fun z => absurd hq (Nat.not_lt.mpr z))]
  exact hs q hq
theorem wl_setO {ad : AD} {dA : Nat → ClassId} {ci k : Nat} {a z : Int} {v : PV} (kl : Kl_ ci) (hk : k < uN_ ci) (A : isO N a ci) (hv : rv_ ad v = fv_ ad (fk_ (fty_ ci k)) z) : (wl_ ad dA N h).set a.toNat (ad.2 a, .inr (ci, ((List.range (uN_ ci)).map fun j => fv_ ad (fk_ (fty_ ci j)) (h a j)).set k (rv_ ad v))) = wl_ ad dA N (hs_ h a k z) := by
  rw [hv, fv_set hk]
  have e2 := wl_set (ad := ad) (dA := dA) (h := h) (k := k) (v := z) A.2.1 (sh_lowO kl.1.2 A.2.2) (isO_ne kl.1 A)
  rw [toN_ A.1, A.2.2, ce_obj _ _ _ _ _ kl.1] at e2
  exact e2
/-- a field is written while cells are being made: a final one only by its constructor -/
theorem s_putN {a z : Int} {v : PV} {ci k : Nat} (hd : decode M.2.1 pc = .ok (.putfield idx, 3)) (hw : Cond.fieldLink M.1 idx (uT_ ci k).1 (uT_ ci k).2.1 (uT_ ci k).2.2.1 ∈ TBL) (kl : Kl_ ci) (hk : k < uN_ ci) (hE : ∀ s0 a2 meth c, E s0 a2 meth c → meth.name = "<init>") (ho : (uT_ ci k).1 = M.1) (A : isO N a ci)
    (hv : ∀ ad : AD, rv_ ad v = fv_ ad (fk_ (fty_ ci k)) z) (hn : ∀ ad : AD, narrow (fty_ ci k) (rv_ ad v) = rv_ ad v ∧ fits (fty_ ci k) (rv_ ad v) = true)
    (kk : SE_ E M d bc bs Q (pc + 3) L st N (hs_ h a k z)) : SE_ E M d bc bs Q pc L (v :: (2, a) :: st) N h := by
  intro l s0 D dA ad p e R s m args below meth c H locs cells slots mc ms ls hG hC hW hL
  obtain ⟨⟨⟨hP, hD⟩, hb1, hb2, hb3⟩, hS⟩ := id hW
  have hK := Gl_K hG (cx_al hC)
  have hap := va_apart (own := M.1) (cx_ts hC) kl.2.2.1 (fty_ ci) kl.2.2.2.1 kl.2.2.2.2 hK kl.2.1
  have he := wl_obj (ad := ad) (dA := dA) (h := h) kl.1 A
  obtain ⟨r, h1, cell, q1, q2, q3, q4⟩ := hP a.toNat _ he
  have hr : r = (uC_ ci, uT_ ci, uN_ ci) := Option.some.inj (h1.symm.trans kl.2.1)
  subst hr
  obtain ⟨hSl, hfc, kC, hkC, hkind⟩ := hK.1 ci _ kl.2.1
  obtain ⟨cf, kf, fi, f, hi, hsl⟩ := hSl k hk
  have hlay := (cx_ts hC) _ (kl.2.2.1 _ (u_in_lay hk))
  unfold u_lay at hlay
  have hst := (u_facts hfc hkC (u_lays (cx_ts hC) kl.2.2.1 hk) hi).1
  have fin : ∀ (H1 : Heap), H1[ad.2 a]? = some (cell.setSlot (D.2 ci k) (rv_ ad v)) → H1.size = H.size → (∀ q, q ≠ ad.2 a → H1[q]? = H[q]?) → W p l e R s m args below meth c H1 (locs ++ [⟨ad.2 a, D.2 ci k⟩]) cells slots (vx_MQ below (Qc_ s0 D dA ad Q.1) (XC_ s0 D dA ad Q.2) args s mc ms (own_ s0)) (F0 m (pc + 3) ls (st.map (rv_ ad))) := fun H1 e1 e2 e3 => by
    have hP1 := hP.set (H1 := H1) (e := .inr (ci, ((List.range (uN_ ci)).map fun j => fv_ ad (fk_ (fty_ ci j)) (h a j)).set k (rv_ ad v))) hD he ⟨_, kl.2.1, t_OB.to (V := updV (vp_V _) k (rv_ ad v)) ⟨_, e1, q2, q3, t_set q4 hap hk (rv_ ad v)⟩ (fun j _ => vp_updV_set (by simpa using hk) (rv_ ad v) j)⟩ e3
    have hD1 := hD.set (e := .inr (ci, ((List.range (uN_ ci)).map fun j => fv_ ad (fk_ (fty_ ci j)) (h a j)).set k (rv_ ad v))) he
    rw [wl_setO kl hk A (hv ad)] at hP1 hD1
    exact kk l s0 D dA ad p e R s m args below meth c H1 _ cells slots mc ms ls hG hC (Wd_putN (cx_sz hC) (cx_ag hC) hW.1 e2 hP1 hD1 (hS.put e2 e3 (hD.2 a.toNat _ he))) hL
  by_cases hfin : (uT_ ci k).2.2.2 = true
  · rw [if_pos hfin] at hlay
    have hcf : m.cls = cf := by
      obtain ⟨_, _, c', _, _, _, -, -, hf', -, -, -, hown2, -⟩ := Cond.laysFinal_spec hlay
      have e1 : c' = cf := by
        have := hi.symm.trans hf'
        simp at this
        exact this.1.symm
      rw [ho] at hown2
      rw [← e1]
      exact Option.some.inj ((cx_own hC).symm.trans hown2)
    have h6 := u_fits hfc hkC hkind (Or.inr hlay) hi (kl.2.2.2.1 k hk) (hn ad).1 (hn ad).2
    refine W.putFinK (cx_ex hC) (cx_cb hC) (cx_own hC) ((cx_ts hC) _ hw) hi hst hcf (hE _ _ _ _ (cx_e hC)) (by rw [q2]; exact h6) q1 q3 (by rw [hsl]; exact k2_hasslot (q4 k hk)) rfl rfl hd fun H' e1 e2 e3 => ?_
    rw [hsl] at e1 ⊢
    exact fin H' e1 e2 e3
  · rw [if_neg hfin] at hlay
    have h6 := u_store hfc hkC hkind hlay hi (kl.2.2.2.1 k hk) (hn ad).1 (hn ad).2
    refine W.putK (cx_ex hC) (cx_cb hC) (f := f) ⟨cx_own hC, (cx_ts hC) _ hw, ⟨_, _, _, hi⟩, hst⟩ (by rw [q2]; exact h6) q1 q3 (by rw [hsl]; exact k2_hasslot (q4 k hk)) rfl rfl hd fun H' e1 e2 e3 => ?_
    rw [hsl] at e1 ⊢
    exact fin H' e1 e2 e3
/-- .. a reference -/
theorem s_putrN {a x z : Int} {ci : Nat} (k : Nat) (hd : decode M.2.1 pc = .ok (.putfield idx, 3)) (hw : Cond.fieldLink M.1 idx (uT_ ci k).1 (uT_ ci k).2.1 (uT_ ci k).2.2.1 ∈ TBL) (kl : Kl_ ci) (hk : k < uN_ ci) (hf : fk_ (fty_ ci k) = 2) (hE : ∀ s0 a2 meth c, E s0 a2 meth c → meth.name = "<init>") (ho : (uT_ ci k).1 = M.1) (A : isO N a ci) (hz : (k : Int) = z) (hx : 0 ≤ x)
    (kk : SE_ E M d bc bs Q (pc + 3) L st N (hs_ h a z x)) : SE_ E M d bc bs Q pc L ((2, x) :: (2, a) :: st) N h := by
  subst hz
  refine s_putN hd hw kl hk hE ho A (fun ad => ?_) (fun ad => ?_) kk
  · rw [hf]
    show Value.ref (ad.2 x) = va_rf (rf_ ad x)
    rw [rf_, if_neg (by omega)]
    rfl
  · generalize fty_ ci k = t at hf
    cases t <;> first | exact ⟨rfl, rfl⟩ | (exact absurd hf (by decide))
/-- .. an int -/
theorem s_putiN {a x z : Int} {ci : Nat} (k : Nat) (hd : decode M.2.1 pc = .ok (.putfield idx, 3)) (hw : Cond.fieldLink M.1 idx (uT_ ci k).1 (uT_ ci k).2.1 (uT_ ci k).2.2.1 ∈ TBL) (kl : Kl_ ci) (hk : k < uN_ ci) (hf : fty_ ci k = .int) (hE : ∀ s0 a2 meth c, E s0 a2 meth c → meth.name = "<init>") (ho : (uT_ ci k).1 = M.1) (A : isO N a ci) (hz : (k : Int) = z)
    (kk : SE_ E M d bc bs Q (pc + 3) L st N (hs_ h a z x)) : SE_ E M d bc bs Q pc L ((0, x) :: (2, a) :: st) N h := by
  subst hz
  refine s_putN hd hw kl hk hE ho A (fun ad => ?_) (fun ad => ?_) kk
  · rw [hf]; rfl
  · rw [hf]; exact ⟨rfl, rfl⟩
theorem s_putzN {a x z : Int} {ci : Nat} (k : Nat) (hd : decode M.2.1 pc = .ok (.putfield idx, 3)) (hw : Cond.fieldLink M.1 idx (uT_ ci k).1 (uT_ ci k).2.1 (uT_ ci k).2.2.1 ∈ TBL) (kl : Kl_ ci) (hk : k < uN_ ci) (hf : fty_ ci k = .boolean) (hE : ∀ s0 a2 meth c, E s0 a2 meth c → meth.name = "<init>") (ho : (uT_ ci k).1 = M.1) (A : isO N a ci) (hz : (k : Int) = z) (hx : x = 0 ∨ x = 1)
    (kk : SE_ E M d bc bs Q (pc + 3) L st N (hs_ h a z x)) : SE_ E M d bc bs Q pc L ((0, x) :: (2, a) :: st) N h := by
  subst hz
  refine s_putN hd hw kl hk hE ho A (fun ad => ?_) (fun ad => ?_) kk
  · rw [hf]; rfl
  · rw [hf]; rcases hx with rfl | rfl <;> exact ⟨rfl, rfl⟩
theorem s_iastoreN {a i v : Int} {n9 : Nat} (hd : decode M.2.1 pc = .ok (.iastore, 1)) (A : isA N a 0 n9) (h0 : 0 ≤ i) (h1 : i < n9) (kk : SE_ E M d bc bs Q (pc + 1) L st N (hs_ h a i v)) : SE_ E M d bc bs Q pc L ((0, v) :: (0, i) :: (2, a) :: st) N h := by
  intro l s0 D dA ad p e R s m args below meth c H locs cells slots mc ms ls hG hC hW hL
  obtain ⟨⟨⟨hP, hD⟩, hb1, hb2, hb3⟩, hS⟩ := id hW
  have ha := wl_arr (ad := ad) (dA := dA) (h := h) A
  have hi : i < 2147483648 := by have := A.2.2.2; omega
  have hin := pI_in (i := i) (n := n9) h0 h1 (by have := A.2.2.2; omega)
  refine W.iast (cx_ex hC) (cx_cb hC) (hP a.toNat _ ha) (((Gl_K hG (cx_al hC)).2 0 _ rfl).1 n9 (fun j => .int (Int32.ofInt (h a j)))) (fun q => by cases q) (by show ¬ (_ < 0 ∨ (arrV _ _ _).slots.size ≤ _); rw [arrV_size]; exact hin) rfl rfl hd fun H1 e z oq => ?_
  have hat : va_at D ucl (ad.2 a, ce_ ad dA (0, n9) (hs_ h a i v a)) H1 := by
    show H1[ad.2 a]? = some (arrV (dA 0) n9 (fun j => Value.int (Int32.ofInt (hs_ h a i v a j))))
    rw [e]
    show some ((arrV (dA 0) n9 (fun j => Value.int (Int32.ofInt (h a j)))).setSlot _ _) = _
    rw [arrV_store, pI_cl h0 hi]
    refine congrArg some (arrV_cong fun j hj => ?_)
    unfold updV
    by_cases q : j = i.toNat
    · rw [if_pos q, q, toN_ h0, hs_eq]
    · rw [if_neg q, hs_ne _ (by omega)]
  have e2 := wl_set (ad := ad) (dA := dA) (h := h) (k := i) (v := v) A.2.1 (sh_low (by rw [A.2.2.1]; exact Nat.le_of_ble_eq_true rfl)) (isA_ne (by decide) A)
  rw [toN_ A.1, A.2.2.1] at e2
  have hP1 := hP.set hD ha hat oq
  have hD1 := hD.set (e := ce_ ad dA (0, n9) (hs_ h a i v a)) ha
  rw [e2] at hP1 hD1
  exact kk l s0 D dA ad p _ R s m args below meth c H1 _ cells slots mc ms ls hG hC (Wd_putN (cx_sz hC) (cx_ag hC) hW.1 z hP1 hD1 (hS.put z oq (hD.2 a.toNat _ ha))) hL
/-- what is said of cells that are not made yet -/
theorem s_beyond (e : ∀ x : Nat, x < N → h' x = h x) (k : SE_ E M d bc bs Q pc L st N h') : SE_ E M d bc bs Q pc L st N h := by
  intro l s0 D dA ad p e9 R s m args below meth c H locs cells slots mc ms ls hG hC hW hL
  refine k l s0 D dA ad p e9 R s m args below meth c H locs cells slots mc ms ls hG hC ⟨?_, hW.2⟩ hL
  obtain ⟨⟨hP, hD⟩, hb⟩ := hW.1
  rw [← wl_below e] at hP hD
  exact ⟨⟨hP, hD⟩, hb⟩
/-- what the tables say of a call of a constructor -/
def IF_ (own : String) (idx : Nat) (y : MethodName) (M' : PM) (n : Nat) : Prop := CF_ y M' n ∧ Cond.methodLink own idx y ∈ TBL ∧ Cond.instanceMethod y ∈ TBL ∧ y.name = "<init>" ∧ M'.2.2.2 = none
/-- a constructor is called -/
theorem e_callI {a : Int} (hE : nh_ E) (hEG : ∀ s0 a2 meth c, E s0 a2 meth c → Gi_ s0) (hd : decode M.2.1 pc = .ok (.invokespecial idx, 3)) (vf : IF_ M.1 idx y M' n) (hdd : d' + 1 ≤ d ∧ 8 + (M'.2.2.1 + 11) + 37 * d' ≤ 37 * d) (hb : bc' ≤ bc ∧ bs' ≤ bs) (hn : as.length = n) (hst : stk = as.reverse ++ (2, a) :: st) (hcat : pcat_ st ≤ 8)
    (C : CI_ y M' d' bc' bs' ((2, a) :: as) N h (fun r N' h' => SE_ E M d (bc - bc') (bs - bs') Q (pc + 3) L (r.toList ++ st) N' h', Q.2)) (h5 : nk5_ L = true := by rfl) (h6 : nk5_ st = true := by rfl) : SE_ E M d bc bs Q pc L stk N h := by
  intro l s0 D dA ad p e R s m args below meth c H locs cells slots mc ms ls hG hC hW hL
  have cb := cf_cb (bc' := bc') (bs' := bs') hC vf.1 vf.2.1 hdd
  rw [vf.2.2.2.2] at cb
  have C9 := C l s0 D dA ad hG (hEG _ _ _ _ (cx_e hC))
  rw [vf.2.2.2.2] at C9
  have hr := vx_runI (As := as.map (rv_ ad)) (rest := st.map (rv_ ad)) (b := ad.2 a) (g := F0 m pc ls (stk.map (rv_ ad))) (H := H) (locs := locs) (below := below) (meth := meth) (cells := cells) (slots := slots) (e := e) ⟨cx_ex hC, cx_cb hC, cx_ml hC, cx_own hC, cx_ts hC⟩ C9 ⟨cb, vf.2.2.2.1, cx_ts hC _ vf.2.2.1⟩
    ⟨pc_bl, fun U hU hW' => ⟨rfl, cx_in hC hW', by rw [hU]; exact hW.1⟩⟩ rfl (by rw [List.length_map]; exact hn) hL.1 (by subst hst; simp [rv_]) (lv_room (by rw [pcat_eq]; exact hcat)) hd (cx_f hC hb)
  exact s_back hE hr hG hC hW.2 hL hb h5 h6 (fun _ _ _ z => z) (fun _ _ _ z => z)
/-- .. of a constructor that only the nest may call -/
def IN_ (own : String) (idx : Nat) (y : MethodName) (M' : PM) (n : Nat) (host : String) : Prop := CF_ y M' n ∧ Cond.methodLinkNest own idx y host ∈ kxw_ ∧ Cond.instanceMethod y ∈ TBL ∧ y.name = "<init>" ∧ M'.2.2.2 = none
theorem e_callIN {a : Int} {host : String} (hE : nh_ E) (hEG : ∀ s0 a2 meth c, E s0 a2 meth c → Gi_ s0) (hd : decode M.2.1 pc = .ok (.invokespecial idx, 3)) (vf : IN_ M.1 idx y M' n host) (hdd : d' + 1 ≤ d ∧ 8 + (M'.2.2.1 + 11) + 37 * d' ≤ 37 * d) (hb : bc' ≤ bc ∧ bs' ≤ bs) (hn : as.length = n) (hst : stk = as.reverse ++ (2, a) :: st) (hcat : pcat_ st ≤ 8)
    (C : CI_ y M' d' bc' bs' ((2, a) :: as) N h (fun r N' h' => SE_ E M d (bc - bc') (bs - bs') Q (pc + 3) L (r.toList ++ st) N' h', Q.2)) (h5 : nk5_ L = true := by rfl) (h6 : nk5_ st = true := by rfl) : SE_ E M d bc bs Q pc L stk N h := by
  intro l s0 D dA ad p e R s m args below meth c H locs cells slots mc ms ls hG hC hW hL
  have K := kx_at hG hC
  have cb : va_CN R s args M.1 idx y host M'.2.1 M'.2.2.1 M'.2.2.2 (.code y M'.2.1 M'.2.2.1 M'.2.2.2 :: TBL) { frames := d', locals := 37 * d', cells := bc', slots := bs' } bc' bs' n := by
    refine ⟨⟨rfl, rfl, Nat.le_trans hdd.1 (cx_fr hC), Nat.le_trans hdd.2 (cx_lo hC), pay_in (cx_ts hC) (fun w hw => ?_), List.mem_cons_self⟩, cx_ts hC _ vf.1.2.1, cx_ts hC _ vf.1.1, vf.1.2.2.1, vf.1.2.2.2, kxw_use vf.2.1 (K.2.2.2.2.2.2.2.2.2.2.2.2.2.1 _ vf.2.1)⟩
    rcases List.mem_cons.mp hw with rfl | hw
    · exact ⟨vf.1.2.1, tb_good _ vf.1.2.1⟩
    · exact ⟨hw, tb_good _ hw⟩
  rw [vf.2.2.2.2] at cb
  have C9 := C l s0 D dA ad hG (hEG _ _ _ _ (cx_e hC))
  rw [vf.2.2.2.2] at C9
  have hr := vx_runIN (As := as.map (rv_ ad)) (rest := st.map (rv_ ad)) (b := ad.2 a) (g := F0 m pc ls (stk.map (rv_ ad))) (H := H) (locs := locs) (below := below) (meth := meth) (cells := cells) (slots := slots) (e := e) ⟨cx_ex hC, cx_cb hC, cx_ml hC, cx_own hC, cx_ts hC⟩ C9 ⟨cb, vf.2.2.2.1, cx_ts hC _ vf.2.2.1⟩
    ⟨pc_bl, fun U hU hW' => ⟨rfl, cx_in hC hW', by rw [hU]; exact hW.1⟩⟩ rfl (by rw [List.length_map]; exact hn) hL.1 (by subst hst; simp [rv_]) (lv_room (by rw [pcat_eq]; exact hcat)) hd (cx_f hC hb)
  exact s_back hE hr hG hC hW.2 hL hb h5 h6 (fun _ _ _ z => z) (fun _ _ _ z => z)
end NEWR
