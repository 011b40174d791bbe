/-! the start: the first picture -/
def z0_ : PH := fun a b => if a = 52 then -1 else if a = 1 ∧ b = 59 then 5 else 0
theorem z0_at {a b : Int} (h : a ≠ 52) (h2 : ¬ (a = 1 ∧ b = 59)) : z0_ a b = 0 := by
  unfold z0_
  rw [if_neg h, if_neg h2]
theorem z0_x {a : Int} (b : Int) (h : a ≠ 52) (h2 : a ≠ 1) : z0_ a b = 0 := z0_at h (fun q => h2 q.1)
theorem hF_at {a : Int} {l : List (Int × Int)} (h : (hT_.lookup a).getD [] = l) (y : Int) : hF a y = lk_ l a y := by
  unfold hF
  rw [h]
theorem df_3 {a y : Int} (hs : (sh_ a.toNat).1 ≤ 3) : df_ a y = 0 := by
  unfold df_
  rw [if_pos hs]
theorem hF_0 {a : Int} (y : Int) (h : (hT_.lookup a).getD [] = []) (hs : (sh_ a.toNat).1 ≤ 3) : hF a y = 0 := by
  rw [hF_at h, lk_nil, df_3 hs]
theorem hF_59 {a : Int} (y : Int) (h : (hT_.lookup a).getD [] = [(59, 5)]) (hs : (sh_ a.toNat).1 ≤ 3) : hF a y = if y = 59 then 5 else 0 := by
  rw [hF_at h, lk_put, lk_nil, df_3 hs]
theorem lookup_mem {β : Type} : ∀ {l : List (Int × β)} {y : Int} {v : β}, l.lookup y = some v → ∃ p ∈ l, p.2 = v
  | [], _, _, h => by cases h
  | (k, w) :: l, y, v, h => by
    rw [List.lookup_cons] at h
    cases e : y == k with
    | true =>
      rw [e] at h
      exact ⟨(k, w), List.mem_cons_self, Option.some.inj h⟩
    | false =>
      rw [e] at h
      obtain ⟨p, hp, hv⟩ := lookup_mem h
      exact ⟨p, List.mem_cons_of_mem _ hp, hv⟩
theorem df_in (x y : Int) : inI (df_ x y) := by
  unfold df_
  repeat' split
  all_goals exact ⟨by decide, by decide⟩
theorem hT_in : ∀ q ∈ hT_, ∀ p ∈ q.2, -2147483648 ≤ p.2 ∧ p.2 < 2147483648 := by decide +kernel
theorem hF_in (x y : Int) : inI (hF x y) := by
  unfold hF lk_
  cases e : ((hT_.lookup x).getD []).lookup y with
  | none => exact df_in x y
  | some v =>
    cases e2 : hT_.lookup x with
    | none =>
      rw [e2] at e
      cases e
    | some l =>
      rw [e2] at e
      obtain ⟨q, hq, rfl⟩ := lookup_mem e2
      obtain ⟨p, hp, rfl⟩ := lookup_mem e
      exact hT_in q hq p hp
theorem gF_ : G hF := ⟨show ∀ q ∈ rfL_, hF q.1 q.2.1 = q.2.2 by decide +kernel, hF_in⟩
theorem zi_0 : ZI z0_ := by
  have e : ∀ b : Int, b ≠ 59 → z0_ 1 b = 0 := fun b h => z0_at (by decide) (fun q => h q.2)
  have x : ∀ b : Int, z0_ 0 b = 0 := fun b => z0_x b (by decide) (by decide)
  refine ⟨⟨fun t a b => ?_, fun p a b => ?_, ?_, ?_, ?_, ?_, ?_⟩, ⟨?_, ?_, ?_, fun p a b => ?_, fun g a b => ?_⟩⟩
  · rw [e t (by omega), e (8 + t) (by omega), e (16 + t) (by omega), e (24 + t) (by omega)]
    decide
  · rw [e (32 + p) (by omega), e (44 + p) (by omega)]
    decide
  · decide
  · decide
  · decide
  · decide
  · decide
  · decide
  · decide
  · decide
  · rw [x] at b; omega
  · rw [x] at b; omega
theorem zb_0 : ZB z0_ := by
  have x : ∀ b : Int, z0_ 0 b = 0 := fun b => z0_x b (by decide) (by decide)
  refine ⟨by decide, fun k a b => by rw [z0_x k (by decide) (by decide)]; decide, by decide, fun t a b => ?_, fun p a b => ?_, by decide, fun j a b => ?_, by decide, fun k a b => ?_⟩
  · rw [x] at b; omega
  · rw [x] at b; omega
  · rw [z0_x 0 (by decide) (by decide)] at b; omega
  · rw [z0_x 0 (by decide) (by decide)] at b; omega
theorem cr_0 : CR_ hF z0_ := by
  have x : ∀ b : Int, z0_ 0 b = 0 := fun b => z0_x b (by decide) (by decide)
  have w : hF 0 3 = 42 := by decide +kernel
  refine ⟨gF_, zi_0, zb_0, Or.inr ⟨w, by decide +kernel⟩, ?_, ?_, ⟨by decide +kernel, fun k a b => ?_⟩, by decide +kernel, ⟨by decide +kernel, ⟨by decide +kernel, by decide +kernel⟩, fun j k a b => ?_⟩, ⟨by decide +kernel, fun k a b => ?_, by decide +kernel, by decide +kernel, by decide +kernel, Or.inl (by decide +kernel)⟩, ⟨Or.inr (by decide +kernel), fun q => absurd q (by decide +kernel)⟩⟩
  · rw [w]
    refine ⟨⟨by decide +kernel, by decide +kernel, by decide +kernel⟩, fun k a b => ?_, fun p a b => ?_, fun g a b => ?_⟩
    · show hF 80 k = z0_ 1 k
      rw [hF_59 k (by decide +kernel) (by decide +kernel)]
      by_cases e : k = 59
      · subst e; decide
      · rw [if_neg e, z0_at (by decide) (fun q => e q.2)]
    · rw [x] at b; omega
    · rw [x] at b; omega
  · rw [w]
    refine ⟨fun t a b => ?_, fun t a b => ?_⟩
    · rw [x] at b; omega
    · rw [x] at b; omega
  · rw [hF_0 k (by decide +kernel) (by decide +kernel), z0_x k (by decide) (by decide)]
  · rw [z0_x 0 (by decide) (by decide)] at b; omega
  · rw [z0_x 0 (by decide) (by decide)] at b; omega
theorem mr_0 : MR_ hF z0_ := by
  have x : ∀ b : Int, z0_ 0 b = 0 := fun b => z0_x b (by decide) (by decide)
  refine ⟨gF_, ⟨by decide +kernel, by decide +kernel, by decide +kernel⟩, fun k a b => ?_, ⟨by decide +kernel, fun j k a b => ?_⟩, fun t a b => ?_, fun p a b => ?_, fun p a b => ?_, fun g v a b => ?_, ⟨by decide +kernel, fun k a b => ?_⟩, by decide +kernel, ⟨by decide +kernel, fun k a b => ?_⟩, zi_0, zb_0⟩
  · show hF 197 k = z0_ 1 (pm_ k)
    rw [hF_59 k (by decide +kernel) (by decide +kernel)]
    unfold pm_
    by_cases c : k < 32
    · rw [if_neg (by omega), if_pos c, z0_at (by decide) (fun q => by have := q.2; omega)]
    · rw [if_neg c]
      by_cases e : k = 59
      · subst e; decide
      · rw [if_neg e, z0_at (by decide) (fun q => e q.2)]
  · rw [z0_x 0 (by decide) (by decide)] at b; omega
  · rw [x] at b; omega
  · rw [x] at b; omega
  · rw [x] at b; omega
  · rw [x] at b; omega
  · show hF 205 k = _
    rw [hF_0 k (by decide +kernel) (by decide +kernel), z0_x k (by decide) (by decide)]
  · rw [z0_x 0 (by decide) (by decide)] at b; omega
theorem li_0 : LI_ hF z0_ := by
  refine ⟨cr_0, ⟨⟨by decide +kernel, by decide +kernel⟩, ⟨by decide +kernel, by decide +kernel⟩, fun k a b => ?_⟩, mr_0⟩
  have e : hF 195 (10 + k) = 0 := by
    rw [hF_at (l := [(-1, 16)]) (by decide +kernel), lk_put, if_neg (by omega), lk_nil]
    unfold df_
    rw [show (195 : Int).toNat = 195 from rfl, sh_195, if_neg (by decide), if_neg (by decide), if_pos rfl]
  rw [e]
  decide
theorem nc_L_8 : Cond.classLink RL 8 (uC_ 6) ∈ TBL ∧ Cond.instantiable (uC_ 6) (uN_ 6) ∈ TBL ∧ Cond.initialized (uC_ 6) ∈ TBL := ⟨tb_in 155 (by decide +kernel) (by decide +kernel), tb_in 156 (by decide +kernel) (by decide +kernel), tb_in 123 (by decide +kernel) (by decide +kernel)⟩
theorem nc_L_116 : Cond.classLink RL 116 (uC_ 7) ∈ TBL ∧ Cond.instantiable (uC_ 7) (uN_ 7) ∈ TBL ∧ Cond.initialized (uC_ 7) ∈ TBL := ⟨tb_in 1641 (by decide +kernel) (by decide +kernel), tb_in 1642 (by decide +kernel) (by decide +kernel), tb_in 134 (by decide +kernel) (by decide +kernel)⟩
theorem if_L_115 : IF_ RL 115 yX8_init MX8_init 0 := ⟨cfX8_init, tb_in 157 (by decide +kernel) (by decide +kernel), tb_in 158 (by decide +kernel) (by decide +kernel), rfl, rfl⟩
theorem if_L_118 : IF_ RL 118 yX9_init MX9_init 0 := ⟨cfX9_init, tb_in 1643 (by decide +kernel) (by decide +kernel), tb_in 1644 (by decide +kernel) (by decide +kernel), rfl, rfl⟩
set_option maxRecDepth 100000 in
set_option maxHeartbeats 4000000 in
/-- the law, from its first instruction -/
theorem lw_law {b len : Nat} {xs : Nat → Int32} (hl : len ≤ 3072) : SE_ (EL_ b len xs) ML_law 20 359000 723000 QL_ 0 [(2, 1399), (9, 0), (9, 0), (9, 0), (9, 0), (9, 0), (9, 0)] [] 0 (hI_ []) := by
  refine r_newc (ci := 6) (a := 0) (N' := 1) (b1 := 358999) (s1 := 722989) dL_law_0 nc_L_8 kl_6 nf_6 (by decide +kernel) (by decide) rfl rfl ⟨rfl, rfl⟩ ?_
  refine s_dup dL_law_3 rfl ?_
  refine f_callI (d' := 4) (bc' := 196) (bs' := 3084) (b1 := 358803) (s1 := 719905) (as := []) (N' := 196) hQ_ eg_L dL_law_4 if_L_115 (by decide) ⟨rfl, rfl⟩ rfl rfl (Nat.le_of_ble_eq_true rfl) (fun Q9 k9 => n_0 k9) ?_
  refine s_astore_n dL_law_7 (by decide) rfl (L' := [(2, _), (2, _), (9, _), (9, _), (9, _), (9, _), (9, _)]) rfl ?_
  refine r_newc (ci := 7) (a := 196) (N' := 197) (b1 := 358802) (s1 := 719860) dL_law_8 nc_L_116 kl_7 nf_7 (by decide +kernel) (by decide) rfl rfl ⟨rfl, rfl⟩ ?_
  refine s_dup dL_law_11 rfl ?_
  refine f_callI (d' := 1) (bc' := 27) (bs' := 2338) (b1 := 358775) (s1 := 717522) (as := []) (N' := 224) hQ_ eg_L dL_law_12 if_L_118 (by decide) ⟨rfl, rfl⟩ rfl rfl (Nat.le_of_ble_eq_true rfl) (fun Q9 k9 => n_196 k9) ?_
  refine s_astore_n dL_law_15 (by decide) rfl (L' := [(2, _), (2, _), (2, _), (9, _), (9, _), (9, _), (9, _)]) rfl ?_
  refine s_iconst dL_law_16 ?_
  refine r_newarl (n' := 1) (a := 224) (N' := 225) (b1 := 358774) (s1 := 717521) dL_law_17 aq_long (by decide +kernel) rfl (by decide) (by decide) rfl rfl (by decide +kernel) (by decide +kernel) ⟨rfl, rfl⟩ ?_
  refine s_astore_n dL_law_19 (by decide) rfl (L' := [(2, _), (2, _), (2, _), (2, _), (9, _), (9, _), (9, _)]) rfl ?_
  refine s_iconst dL_law_20 ?_
  refine s_istore dL_law_21 (by decide) rfl (L' := [(2, _), (2, _), (2, _), (2, _), (0, _), (9, _), (9, _)]) rfl ?_
  exact lw_loop hl (by decide) 512 0 358774 717521 (hI_ []) z0_ (by decide) (by decide) (by omega) (by decide) (by decide) li_0
/-! the tables at the start -/
section STT
variable {args : Array Value} {s : State}
theorem sb_selP {y : MethodName} (hy : y.cls ≠ "java/lang/invoke/MethodHandle" ∧ y.cls ≠ "java/lang/invoke/VarHandle") (h0 : (Cond.instantiable "java/lang/StringBuilder" 4).before args s = true) (h1 : (Cond.privateMethod y).before args s = true) (h2 : (Cond.instanceMethod y).before args s = true) (h3 : (Cond.sameMethod y.cls y.cls y.name y.desc).before args s = true) : (Cond.selects "java/lang/StringBuilder" y y).before args s = true := by
  obtain ⟨c, k, hc, hk, -, -, -, -⟩ := Cond.instantiable_spec h0
  obtain ⟨mk, methM, hnamed, hmethM, -, -⟩ := Cond.instanceMethod_spec h2
  have hfound : s.methodFound? y.cls y.name y.desc = some mk := State.methodFound?_of_named hnamed hy
  obtain ⟨cn, ck, r1, hcn, hck, hni, hf, hn1⟩ := Cond.sameMethod_found h3
  have hcls : mk.cls = cn := Option.some.inj ((findClass_of_methodNamed hnamed).symm.trans hcn)
  have hsel : selectMethod {} s.vm c mk = .method mk := selectMethod_private hmethM (Cond.privateMethod_at h1 mk methM hnamed hmethM)
  simp only [Cond.before, Cond.holds, Cond.value, hc, hfound, hnamed, hsel, hcls, hck]
  simp
  exact hni
theorem tb_start (hts : ∀ w ∈ lw_tbl, w.before args s = true) : ∀ w ∈ TBL, w.before args s = true := by
  intro w hw
  rcases List.mem_append.mp (List.mem_filter.mp hw).1 with h | h
  · exact hts w h
  · obtain ⟨y, hy, rfl⟩ := List.mem_map.mp h
    simp only [List.mem_cons, List.not_mem_nil, or_false] at hy
    rcases hy with rfl | rfl | rfl | rfl
    · exact sb_selP ⟨by decide +kernel, by decide +kernel⟩ (hts _ (List.mem_of_getElem? (i := 408) (by decide +kernel))) (hts _ (List.mem_of_getElem? (i := 1411) (by decide +kernel))) (hts _ (List.mem_of_getElem? (i := 1412) (by decide +kernel))) (hts _ (List.mem_of_getElem? (i := 2268) (by decide +kernel)))
    · exact sb_selP ⟨by decide +kernel, by decide +kernel⟩ (hts _ (List.mem_of_getElem? (i := 408) (by decide +kernel))) (hts _ (List.mem_of_getElem? (i := 1415) (by decide +kernel))) (hts _ (List.mem_of_getElem? (i := 1416) (by decide +kernel))) (hts _ (List.mem_of_getElem? (i := 2269) (by decide +kernel)))
    · exact sb_selP ⟨by decide +kernel, by decide +kernel⟩ (hts _ (List.mem_of_getElem? (i := 408) (by decide +kernel))) (hts _ (List.mem_of_getElem? (i := 1461) (by decide +kernel))) (hts _ (List.mem_of_getElem? (i := 1462) (by decide +kernel))) (hts _ (List.mem_of_getElem? (i := 2270) (by decide +kernel)))
    · exact sb_selP ⟨by decide +kernel, by decide +kernel⟩ (hts _ (List.mem_of_getElem? (i := 408) (by decide +kernel))) (hts _ (List.mem_of_getElem? (i := 1465) (by decide +kernel))) (hts _ (List.mem_of_getElem? (i := 1466) (by decide +kernel))) (hts _ (List.mem_of_getElem? (i := 2271) (by decide +kernel)))
theorem k_cls {ci n : Nat} (hts : ∀ w ∈ TBL, w.before args s = true) (kl : Kl_ ci) (hi : (Cond.instantiable (uC_ ci) n).before args s = true) : ∃ q : ClassId × (Nat → Nat), ∀ r : vw_C, ucl[ci]? = some r → u_Kn s r.1 r.2.1 r.2.2 q.1 q.2 := by
  obtain ⟨cC, iS, h⟩ := u_known hts kl.2.2.1 hi
  refine ⟨(cC, iS), fun r hr => ?_⟩
  cases Option.some.inj (hr.symm.trans kl.2.1)
  exact h
theorem k_arr {ty : FieldType} (h : (Cond.arrayClass ty).before args s = true) (hv : ∀ cA : ClassId, s.vm.findClass ("[" ++ ty.toString) = some cA → va_RA s cA ty) : ∃ cA : ClassId, ArrOfT s cA ty ∧ va_RA s cA ty := by
  obtain ⟨cA, kA, comp, h1, h2, h3⟩ := Cond.arrayClass_spec h
  exact ⟨cA, fun n z => ⟨fun k h => (by cases h), kA, h2, comp, h3⟩, hv cA h1⟩
theorem k_arr2 {ty : FieldType} (h : (Cond.arrayOver (.array ty)).before args s = true) : ∃ cA : ClassId, ArrOfT s cA (.array ty) ∧ va_RA s cA (.array ty) := by
  obtain ⟨comp, cA, kA, h0, h2, h3, h1⟩ := Cond.arrayOver_specA h
  exact ⟨cA, fun n z => ⟨fun k h => (by cases h), kA, h2, comp, h3⟩, h1⟩
theorem k_start (hts : ∀ w ∈ lw_tbl, w.before args s = true) : ∃ (D : va_G) (dA : Nat → ClassId), va_K D ucl (tys_ dA) s := by
  have hT := tb_start hts
  have h0 : ∀ c : Nat, ∃ q : ClassId × (Nat → Nat), ∀ r : vw_C, ucl[c]? = some r → u_Kn s r.1 r.2.1 r.2.2 q.1 q.2 := by
    intro c
    match c with
    | 0 => exact k_cls (n := 3) hT kl_0 (hts _ (List.mem_of_getElem? (i := 309) (by decide +kernel)))
    | 1 => exact k_cls (n := 1) hT kl_1 (hts _ (List.mem_of_getElem? (i := 269) (by decide +kernel)))
    | 2 => exact k_cls (n := 3) hT kl_2 (hts _ (List.mem_of_getElem? (i := 176) (by decide +kernel)))
    | 3 => exact k_cls (n := 7) hT kl_3 (hts _ (List.mem_of_getElem? (i := 164) (by decide +kernel)))
    | 4 => exact k_cls (n := 19) hT kl_4 (hts _ (List.mem_of_getElem? (i := 328) (by decide +kernel)))
    | 5 => exact k_cls (n := 13) hT kl_5 (hts _ (List.mem_of_getElem? (i := 170) (by decide +kernel)))
    | 6 => exact k_cls (n := 11) hT kl_6 (hts _ (List.mem_of_getElem? (i := 156) (by decide +kernel)))
    | 7 => exact k_cls (n := 45) hT kl_7 (hts _ (List.mem_of_getElem? (i := 1642) (by decide +kernel)))
    | 8 =>
      obtain ⟨cC, iS, h⟩ := u_known (n := 4) hT kwJ4 (hts _ (List.mem_of_getElem? (i := 408) (by decide +kernel)))
      exact ⟨(cC, iS), fun r hr => by cases hr; exact h⟩
    | n + 9 => exact ⟨(0, fun _ => 0), fun r hr => by simp at hr⟩
  have h1 : ∀ k : Nat, ∃ cA : ClassId, ∀ ty : FieldType, aty_[k]? = some ty → ArrOfT s cA ty ∧ va_RA s cA ty := by
    intro k
    match k with
    | 0 => obtain ⟨cA, h⟩ := k_arr (ty := .int) (hts _ (List.mem_of_getElem? (i := 199) (by decide +kernel))) (fun _ q => q); exact ⟨cA, fun ty hy => by cases hy; exact h⟩
    | 1 => obtain ⟨cA, h⟩ := k_arr (ty := .byte) (hts _ (List.mem_of_getElem? (i := 198) (by decide +kernel))) (fun _ q => q); exact ⟨cA, fun ty hy => by cases hy; exact h⟩
    | 2 => obtain ⟨cA, h⟩ := k_arr (ty := .boolean) (hts _ (List.mem_of_getElem? (i := 267) (by decide +kernel))) (fun _ q => q); exact ⟨cA, fun ty hy => by cases hy; exact h⟩
    | 3 => obtain ⟨cA, h⟩ := k_arr (ty := .long) (hts _ (List.mem_of_getElem? (i := 406) (by decide +kernel))) (fun _ q => q); exact ⟨cA, fun ty hy => by cases hy; exact h⟩
    | 4 => obtain ⟨cA, h⟩ := k_arr2 (ty := .int) (hts _ (List.mem_of_getElem? (i := 315) (by decide +kernel))); exact ⟨cA, fun ty hy => by cases hy; exact h⟩
    | 5 => obtain ⟨cA, h⟩ := k_arr2 (ty := .byte) (hts _ (List.mem_of_getElem? (i := 182) (by decide +kernel))); exact ⟨cA, fun ty hy => by cases hy; exact h⟩
    | n + 6 => exact ⟨0, fun ty hy => by simp at hy⟩
  obtain ⟨f, hf⟩ := Classical.axiomOfChoice h0
  obtain ⟨dA, hd⟩ := Classical.axiomOfChoice h1
  refine ⟨(fun c => (f c).1, fun c => (f c).2), dA, fun c q hq => hf c q hq, fun k q hq => ?_⟩
  match k with
  | 0 => cases hq; exact hd 0 _ rfl
  | 1 => cases hq; exact hd 1 _ rfl
  | 2 => cases hq; exact hd 2 _ rfl
  | 3 => cases hq; exact hd 3 _ rfl
  | 4 => cases hq; exact hd 4 _ rfl
  | 5 => cases hq; exact hd 5 _ rfl
  | n + 6 => simp [tys_] at hq
end STT
