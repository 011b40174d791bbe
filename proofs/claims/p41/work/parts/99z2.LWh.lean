/-! the law, from its first instruction, as it stands at the start -/
theorem vv_0 : VV_ 0 0 0 0 yz_ := by
  refine ⟨⟨rfl, rfl, ⟨by decide, by decide⟩, fun i a b => absurd b (by omega), fun i a b => absurd b (by omega), fun g a b => absurd (show g < 0 from b) (by omega)⟩, fun i a b => ?_, ?_⟩
  · show (if (8 + i : Int) = 59 then (5 : Int) else 0) = 0
    rw [if_neg (by omega)]
  · decide
theorem lw_all {b len : Nat} {xs : Nat → Int32} (hl : len ≤ 260) : SL_ b len xs 600086 7301441 (fun r _ _ => r = some (0, 1), fun _ _ _ => False) 0 [(2, 1399), (9, 0), (9, 0), (9, 0), (9, 0), (9, 0), (9, 0), (9, 0), (9, 0)] [] 0 (hI_ []) := lw_law (by omega) vv_0 (fun _ => rfl)
/-! the tables at the start -/
section STT
variable {args : Array Value} {s : State}
theorem sb_selP {y : MethodName} (hy : y.cls ≠ "java/lang/invoke/MethodHandle" ∧ y.cls ≠ "java/lang/invoke/VarHandle") (h0 : (Cond.instantiable "java/lang/StringBuilder" 4).before args s = true) (h1 : (Cond.privateMethod y).before args s = true) (h2 : (Cond.instanceMethod y).before args s = true) (h3 : (Cond.sameMethod y.cls y.cls y.name y.desc).before args s = true) : (Cond.selects "java/lang/StringBuilder" y y).before args s = true := by
  obtain ⟨c, k, hc, hk, -, -, -, -⟩ := Cond.instantiable_spec h0
  obtain ⟨mk, methM, hnamed, hmethM, -, -⟩ := Cond.instanceMethod_spec h2
  have hfound : s.methodFound? y.cls y.name y.desc = some mk := State.methodFound?_of_named hnamed hy
  obtain ⟨cn, ck, r1, hcn, hck, hni, hf, hn1⟩ := Cond.sameMethod_found h3
  have hcls : mk.cls = cn := Option.some.inj ((findClass_of_methodNamed hnamed).symm.trans hcn)
  have hsel : selectMethod {} s.vm c mk = .method mk := selectMethod_private hmethM (Cond.privateMethod_at h1 mk methM hnamed hmethM)
  simp only [Cond.before, Cond.holds, Cond.value, hc, hfound, hnamed, hsel, hcls, hck]
  simp
  exact hni
theorem tb_start (hts : ∀ w ∈ lw_tbl, w.before args s = true) : ∀ w ∈ TBL, w.before args s = true := by
  intro w hw
  rcases List.mem_append.mp (List.mem_filter.mp hw).1 with h | h
  · exact hts w h
  · obtain ⟨y, hy, rfl⟩ := List.mem_map.mp h
    simp only [List.mem_cons, List.not_mem_nil, or_false] at hy
    rcases hy with rfl | rfl | rfl | rfl
    · exact sb_selP ⟨by decide +kernel, by decide +kernel⟩ (hts _ (List.mem_of_getElem? (i := 664) (by decide +kernel))) (hts _ (List.mem_of_getElem? (i := 764) (by decide +kernel))) (hts _ (List.mem_of_getElem? (i := 765) (by decide +kernel))) (hts _ (List.mem_of_getElem? (i := 1210) (by decide +kernel)))
    · exact sb_selP ⟨by decide +kernel, by decide +kernel⟩ (hts _ (List.mem_of_getElem? (i := 664) (by decide +kernel))) (hts _ (List.mem_of_getElem? (i := 768) (by decide +kernel))) (hts _ (List.mem_of_getElem? (i := 769) (by decide +kernel))) (hts _ (List.mem_of_getElem? (i := 1211) (by decide +kernel)))
    · exact sb_selP ⟨by decide +kernel, by decide +kernel⟩ (hts _ (List.mem_of_getElem? (i := 664) (by decide +kernel))) (hts _ (List.mem_of_getElem? (i := 833) (by decide +kernel))) (hts _ (List.mem_of_getElem? (i := 834) (by decide +kernel))) (hts _ (List.mem_of_getElem? (i := 1212) (by decide +kernel)))
    · exact sb_selP ⟨by decide +kernel, by decide +kernel⟩ (hts _ (List.mem_of_getElem? (i := 664) (by decide +kernel))) (hts _ (List.mem_of_getElem? (i := 837) (by decide +kernel))) (hts _ (List.mem_of_getElem? (i := 838) (by decide +kernel))) (hts _ (List.mem_of_getElem? (i := 1213) (by decide +kernel)))
theorem k_cls {ci n : Nat} (hts : ∀ w ∈ TBL, w.before args s = true) (kl : Kl_ ci) (hi : (Cond.instantiable (uC_ ci) n).before args s = true) : ∃ q : ClassId × (Nat → Nat), ∀ r : vw_C, ucl[ci]? = some r → u_Kn s r.1 r.2.1 r.2.2 q.1 q.2 := by
  obtain ⟨cC, iS, h⟩ := u_known hts kl.2.2.1 hi
  refine ⟨(cC, iS), fun r hr => ?_⟩
  cases Option.some.inj (hr.symm.trans kl.2.1)
  exact h
theorem k_arr {ty : FieldType} (h : (Cond.arrayClass ty).before args s = true) (hv : ∀ cA : ClassId, s.vm.findClass ("[" ++ ty.toString) = some cA → va_RA s cA ty) : ∃ cA : ClassId, ArrOfT s cA ty ∧ va_RA s cA ty := by
  obtain ⟨cA, kA, comp, h1, h2, h3⟩ := Cond.arrayClass_spec h
  exact ⟨cA, fun n z => ⟨fun k h => (by cases h), kA, h2, comp, h3⟩, hv cA h1⟩
theorem k_arr2 {ty : FieldType} (h : (Cond.arrayOver (.array ty)).before args s = true) : ∃ cA : ClassId, ArrOfT s cA (.array ty) ∧ va_RA s cA (.array ty) := by
  obtain ⟨comp, cA, kA, h0, h2, h3, h1⟩ := Cond.arrayOver_specA h
  exact ⟨cA, fun n z => ⟨fun k h => (by cases h), kA, h2, comp, h3⟩, h1⟩
theorem k_start (hts : ∀ w ∈ lw_tbl, w.before args s = true) : ∃ (D : va_G) (dA : Nat → ClassId), va_K D ucl (tys_ dA) s := by
  have hT := tb_start hts
  have h0 : ∀ c : Nat, ∃ q : ClassId × (Nat → Nat), ∀ r : vw_C, ucl[c]? = some r → u_Kn s r.1 r.2.1 r.2.2 q.1 q.2 := by
    intro c
    match c with
    | 0 => exact k_cls (n := 3) hT kl_0 (hts _ (List.mem_of_getElem? (i := 572) (by decide +kernel)))
    | 1 => exact k_cls (n := 1) hT kl_1 (hts _ (List.mem_of_getElem? (i := 533) (by decide +kernel)))
    | 2 => exact k_cls (n := 3) hT kl_2 (hts _ (List.mem_of_getElem? (i := 450) (by decide +kernel)))
    | 3 => exact k_cls (n := 7) hT kl_3 (hts _ (List.mem_of_getElem? (i := 438) (by decide +kernel)))
    | 4 => exact k_cls (n := 19) hT kl_4 (hts _ (List.mem_of_getElem? (i := 219) (by decide +kernel)))
    | 5 => exact k_cls (n := 13) hT kl_5 (hts _ (List.mem_of_getElem? (i := 444) (by decide +kernel)))
    | 6 => exact k_cls (n := 11) hT kl_6 (hts _ (List.mem_of_getElem? (i := 173) (by decide +kernel)))
    | 7 => exact k_cls (n := 1) hT kl_7 (hts _ (List.mem_of_getElem? (i := 728) (by decide +kernel)))
    | 8 =>
      obtain ⟨cC, iS, h⟩ := u_known (n := 4) hT kwJ4 (hts _ (List.mem_of_getElem? (i := 664) (by decide +kernel)))
      exact ⟨(cC, iS), fun r hr => by cases hr; exact h⟩
    | 9 =>
      obtain ⟨cC, iS, h⟩ := u_known (n := 4) hT kwJ4 (hts _ (List.mem_of_getElem? (i := 664) (by decide +kernel)))
      exact ⟨(cC, iS), fun r hr => by cases hr; exact h⟩
    | 10 =>
      obtain ⟨cC, iS, h⟩ := u_known (n := 4) hT kwJ0 (hts _ (List.mem_of_getElem? (i := 937) (by decide +kernel)))
      exact ⟨(cC, iS), fun r hr => by cases hr; exact h⟩
    | n + 11 => exact ⟨(0, fun _ => 0), fun r hr => by simp at hr⟩
  have h1 : ∀ k : Nat, ∃ cA : ClassId, ∀ ty : FieldType, aty_[k]? = some ty → ArrOfT s cA ty ∧ va_RA s cA ty := by
    intro k
    match k with
    | 0 => obtain ⟨cA, h⟩ := k_arr (ty := .int) (hts _ (List.mem_of_getElem? (i := 471) (by decide +kernel))) (fun _ q => q); exact ⟨cA, fun ty hy => by cases hy; exact h⟩
    | 1 => obtain ⟨cA, h⟩ := k_arr (ty := .byte) (hts _ (List.mem_of_getElem? (i := 151) (by decide +kernel))) (fun _ q => q); exact ⟨cA, fun ty hy => by cases hy; exact h⟩
    | 2 => obtain ⟨cA, h⟩ := k_arr (ty := .boolean) (hts _ (List.mem_of_getElem? (i := 531) (by decide +kernel))) (fun _ q => q); exact ⟨cA, fun ty hy => by cases hy; exact h⟩
    | 3 => obtain ⟨cA, h⟩ := k_arr (ty := .long) (hts _ (List.mem_of_getElem? (i := 662) (by decide +kernel))) (fun _ q => q); exact ⟨cA, fun ty hy => by cases hy; exact h⟩
    | 4 => obtain ⟨cA, h⟩ := k_arr2 (ty := .int) (hts _ (List.mem_of_getElem? (i := 578) (by decide +kernel))); exact ⟨cA, fun ty hy => by cases hy; exact h⟩
    | 5 => obtain ⟨cA, h⟩ := k_arr2 (ty := .byte) (hts _ (List.mem_of_getElem? (i := 456) (by decide +kernel))); exact ⟨cA, fun ty hy => by cases hy; exact h⟩
    | n + 6 => exact ⟨0, fun ty hy => by simp at hy⟩
  obtain ⟨f, hf⟩ := Classical.axiomOfChoice h0
  obtain ⟨dA, hd⟩ := Classical.axiomOfChoice h1
  refine ⟨(fun c => (f c).1, fun c => (f c).2), dA, fun c q hq => hf c q hq, fun k q hq => ?_⟩
  match k with
  | 0 => cases hq; exact hd 0 _ rfl
  | 1 => cases hq; exact hd 1 _ rfl
  | 2 => cases hq; exact hd 2 _ rfl
  | 3 => cases hq; exact hd 3 _ rfl
  | 4 => cases hq; exact hd 4 _ rfl
  | 5 => cases hq; exact hd 5 _ rfl
  | n + 6 => simp [tys_] at hq
end STT
