/-! the text that is written: calls of its methods -/
theorem sb_ins : Cond.instantiable "java/lang/StringBuilder" 4 ∈ TBL := tb_in 664 (by decide +kernel) (by decide +kernel)
/-- what the tables say of a call of a method of the text -/
def BF_ (own : String) (idx : Nat) (y : MethodName) (M' : PM) (n : Nat) : Prop := CF_ y M' n ∧ Cond.methodLink own idx y ∈ TBL ∧ Cond.instanceMethod y ∈ TBL ∧ Cond.selects "java/lang/StringBuilder" y y ∈ TBL
theorem bf_v {own : String} {idx : Nat} {y : MethodName} {M' : PM} {n : Nat} (vf : VF_ own idx y M' n) (hy : y.cls = "java/lang/StringBuilder") : BF_ own idx y M' n := ⟨vf.1, vf.2.1, vf.2.2.1, by have := vf.2.2.2; rw [hy] at this; exact this⟩
def US_ (own : String) (idx : Nat) (y : MethodName) (M' : PM) (n : Nat) : Prop := CF_ y M' n ∧ Cond.methodLink own idx y ∈ TBL ∧ Cond.sameMethod y.cls y.cls y.name y.desc ∈ TBL ∧ Cond.superclass own y.cls ∈ TBL ∧ Cond.instanceMethod y ∈ TBL ∧ y.name ≠ "<init>"
section CALLB
variable {E : EP} {M M' : PM} {d d' bc bs bc' bs' : Nat} {Q : PQ} {F : FP} {PX : String → Nat → PH → Prop} {pc idx n : Nat} {L st stk as : List PV} {h : PH} {y : MethodName}
theorem sb_recv {D : va_G} {dA : Nat → ClassId} {ad : AD} {s : State} {H : Heap} (hK : va_K D ucl (tys_ dA) s) (hP : va_P D ucl (wl_ ad dA nM h) H) : ∃ cell : Cell, H[ad.2 198]? = some cell ∧ cell.vm.isStatics = false ∧ s.vm.findClass "java/lang/StringBuilder" = some cell.cls :=
  va_recv hK hP (ci := 8) (q := (RJ4, TJ4, 4)) rfl wl_195
theorem runB {l : Launch} {s0 : State} {D : va_G} {dA : Nat → ClassId} {ad : AD} {p : Program} {e : Env} {R : Room} {s : State} {m : MethodId} {args : Array Value} {below : List Frame} {meth : Method} {c : Code} {H : Heap} {locs : List Loc} {cells slots mc ms : Nat} {ls : Array Slot} (hG : Gl_ l s0 D dA ad.2) (hC : Cx_ E ad.2 M d bc bs s0 p R s m args meth c cells slots mc ms) (hW : Wd_ s0 D dA ad nM h H ∧ va_S (own_ s0) s.heap H locs) (hL : lv_has ls M.2.2.1 (as_ ad 0 L)) (hd : decode M.2.1 pc = .ok (.invokevirtual idx, 3)) (bf : BF_ M.1 idx y M' n) (hdd : d' + 1 ≤ d ∧ 8 + (M'.2.2.1 + 11) + 37 * d' ≤ 37 * d) (hb : bc' ≤ bc ∧ bs' ≤ bs) (hn : as.length = n) (hst : stk = as.reverse ++ (2, 198) :: st) (hcat : pcat_ st ≤ 8)
    (C : C5_ y M' d' bc' bs' ((2, 198) :: as) nM h F PX) : vx_Run p l e R s m args below meth c H locs cells slots bc' bs' (F0 m pc ls (stk.map (rv_ ad))) (st.map (rv_ ad)) (F s0 D dA ad (((2, 198) :: as).map (rv_ ad)).toArray) (XC_ s0 D dA ad PX) (own_ s0) := by
  obtain ⟨⟨⟨hP, hD⟩, hb1, hb2, hb3⟩, hS⟩ := id hW
  exact vx_runV (As := as.map (rv_ ad)) (rest := st.map (rv_ ad)) (b := ad.2 198) (C := "java/lang/StringBuilder") (g := F0 m pc ls (stk.map (rv_ ad))) (H := H) (locs := locs) (below := below) (meth := meth) (cells := cells) (slots := slots) (e := e) ⟨cx_ex hC, cx_cb hC, cx_ml hC, cx_own hC, cx_ts hC⟩ (C l s0 D dA ad hG) ⟨cf_cb hC bf.1 bf.2.1 hdd, cx_ts hC _ bf.2.2.1, cx_ts hC _ bf.2.2.2⟩
    ⟨pc_bl, sb_recv (Gl_K hG (cx_al hC)) hP, fun U hU hW' => ⟨rfl, cx_in hC hW', by rw [hU]; exact hW.1⟩⟩ rfl (by rw [List.length_map]; exact hn) hL.1 (by subst hst; simp [rv_]) (lv_room (by rw [pcat_eq]; exact hcat)) hd (cx_f hC hb)
/-- what a call owes, as the one machine says it -/
theorem c5_of (C : Cl_ y M' d' bc' bs' as nM h Q) : C5_ y M' d' bc' bs' as nM h (fun s0 D dA ad => Qc_ s0 D dA ad Q.1) Q.2 := C
theorem e_callB (hE : nh_ E) (hd : decode M.2.1 pc = .ok (.invokevirtual idx, 3)) (bf : BF_ M.1 idx y M' n) (hdd : d' + 1 ≤ d ∧ 8 + (M'.2.2.1 + 11) + 37 * d' ≤ 37 * d) (hb : bc' ≤ bc ∧ bs' ≤ bs) (hn : as.length = n) (hst : stk = as.reverse ++ (2, 198) :: st) (hcat : pcat_ st ≤ 8)
    (C : Cl_ y M' d' bc' bs' ((2, 198) :: as) nM h (fun r N' h' => SE_ E M d (bc - bc') (bs - bs') Q (pc + 3) L (r.toList ++ st) N' h', Q.2)) (h5 : nk5_ L = true := by rfl) (h6 : nk5_ st = true := by rfl) : SE_ E M d bc bs Q pc L stk nM h := by
  intro l s0 D dA ad p e R s m args below meth c H locs cells slots mc ms ls hG hC hW hL
  exact s_back hE (runB hG hC hW hL hd bf hdd hb hn hst hcat (c5_of C)) hG hC hW.2 hL hb h5 h6 (fun _ _ _ z => z) (fun _ _ _ z => z)
theorem e5_callB (hd : decode M.2.1 pc = .ok (.invokevirtual idx, 3)) (bf : BF_ M.1 idx y M' n) (hdd : d' + 1 ≤ d ∧ 8 + (M'.2.2.1 + 11) + 37 * d' ≤ 37 * d) (hn : as.length = n) (hst : stk = as.reverse ++ (2, 198) :: st) (hcat : pcat_ st ≤ 8)
    (C : C5_ y M' d' 0 0 ((2, 198) :: as) nM h (Q5_ (fun r N' h' => SE_ E M d bc bs Q (pc + 3) L (r.toList ++ st) N' h')) (fun _ _ _ => False)) : SE_ E M d bc bs Q pc L stk nM h := by
  intro l s0 D dA ad p e R s m args below meth c H locs cells slots mc ms ls hG hC hW hL
  exact back5 (runB hG hC hW hL hd bf hdd ⟨Nat.zero_le _, Nat.zero_le _⟩ hn hst hcat C) hW.2 (fun _ _ _ z => z) (fun r N' h' H' locs' k hW' => k l s0 D dA ad p e R s m args below meth c H' locs' cells slots mc ms ls hG hC hW' hL)
/-- super.m(..) -/
theorem e_callSU (hE : nh_ E) (hd : decode M.2.1 pc = .ok (.invokespecial idx, 3)) (su : US_ M.1 idx y M' n) (hdd : d' + 1 ≤ d ∧ 8 + (M'.2.2.1 + 11) + 37 * d' ≤ 37 * d) (hb : bc' ≤ bc ∧ bs' ≤ bs) (hn : as.length = n) (hst : stk = as.reverse ++ (2, 198) :: st) (hcat : pcat_ st ≤ 8)
    (C : Cl_ y M' d' bc' bs' ((2, 198) :: as) nM h (fun r N' h' => SE_ E M d (bc - bc') (bs - bs') Q (pc + 3) L (r.toList ++ st) N' h', Q.2)) (h5 : nk5_ L = true := by rfl) (h6 : nk5_ st = true := by rfl) : SE_ E M d bc bs Q pc L stk nM h := by
  intro l s0 D dA ad p e R s m args below meth c H locs cells slots mc ms ls hG hC hW hL
  obtain ⟨⟨⟨hP, hD⟩, hb1, hb2, hb3⟩, hS⟩ := id hW
  obtain ⟨u1, u2, u3, u4, u5, u6⟩ := su
  have hK := Gl_K hG (cx_al hC)
  have cs : va_CS R s args M.1 idx y M'.2.1 M'.2.2.1 M'.2.2.2 (.code y M'.2.1 M'.2.2.1 M'.2.2.2 :: TBL) { frames := d', locals := 37 * d', cells := bc', slots := bs' } bc' bs' n := by
    refine ⟨⟨rfl, rfl, Nat.le_trans hdd.1 (cx_fr hC), Nat.le_trans hdd.2 (cx_lo hC), pay_in (cx_ts hC) (fun w hw => ?_), List.mem_cons_self⟩, cx_ts hC _ u2, cx_ts hC _ u3, cx_ts hC _ u4, cx_ts hC _ u5, cx_ts hC _ u1.1, cx_ts hC _ u1.2.1, u6, u1.2.2.2⟩
    rcases List.mem_cons.mp hw with rfl | hw
    · exact ⟨u1.2.1, tb_good _ u1.2.1⟩
    · exact ⟨hw, tb_good _ hw⟩
  have hr := vx_runSU (C := RJ4) (hK.1 8 (RJ4, TJ4, 4) rfl).2 (As := as.map (rv_ ad)) (rest := st.map (rv_ ad)) (b := ad.2 198) (g := F0 m pc ls (stk.map (rv_ ad))) (H := H) (locs := locs) (below := below) (meth := meth) (cells := cells) (slots := slots) (e := e) ⟨cx_ex hC, cx_cb hC, cx_ml hC, cx_own hC, cx_ts hC⟩ (C l s0 D dA ad hG) cs
    ⟨pc_bl, sb_recv hK hP, fun U hU hW' => ⟨rfl, cx_in hC hW', by rw [hU]; exact hW.1⟩⟩ rfl (by rw [List.length_map]; exact hn) hL.1 (by subst hst; simp [rv_]) (lv_room (by rw [pcat_eq]; exact hcat)) hd (cx_f hC hb)
  exact s_back hE hr hG hC hW.2 hL hb h5 h6 (fun _ _ _ z => z) (fun _ _ _ z => z)
end CALLB
theorem su_J4_343 : US_ RJ4 343 yJ5_length_8abf5 MJ5_length_8abf5 0 := ⟨cfJ5_length_8abf5, lk_J4_343, tb_in 1207 (by decide +kernel) (by decide +kernel), tb_in 421 (by decide +kernel) (by decide +kernel), tb_in 422 (by decide +kernel) (by decide +kernel), by decide⟩
theorem su_J4_29 : US_ RJ4 29 yJ5_append_cf1ce MJ5_append_cf1ce 1 := ⟨cfJ5_append_cf1ce, lk_J4_29, tb_in 1208 (by decide +kernel) (by decide +kernel), tb_in 421 (by decide +kernel) (by decide +kernel), tb_in 757 (by decide +kernel) (by decide +kernel), by decide⟩
theorem su_J4_50 : US_ RJ4 50 yJ5_append_3fe6f MJ5_append_3fe6f 1 := ⟨cfJ5_append_3fe6f, lk_J4_50, tb_in 1215 (by decide +kernel) (by decide +kernel), tb_in 421 (by decide +kernel) (by decide +kernel), tb_in 871 (by decide +kernel) (by decide +kernel), by decide⟩
theorem su_J4_53 : US_ RJ4 53 yJ5_append_c97b9 MJ5_append_c97b9 1 := ⟨cfJ5_append_c97b9, lk_J4_53, tb_in 1216 (by decide +kernel) (by decide +kernel), tb_in 421 (by decide +kernel) (by decide +kernel), tb_in 899 (by decide +kernel) (by decide +kernel), by decide⟩
theorem bf_J5_100 : BF_ RJ5 100 yJ5_ensureCapacityInternal_d00df MJ5_ensureCapacityInternal_d00df 1 := ⟨cfJ5_ensureCapacityInternal_d00df, lk_J5_100, tb_in 765 (by decide +kernel) (by decide +kernel), tb_sb (by decide +kernel)⟩
theorem bf_J5_104 : BF_ RJ5 104 yJ5_newCapacity_0f7a4 MJ5_newCapacity_0f7a4 1 := ⟨cfJ5_newCapacity_0f7a4, lk_J5_104, tb_in 769 (by decide +kernel) (by decide +kernel), tb_sb (by decide +kernel)⟩
theorem bf_J5_208 : BF_ RJ5 208 yJ5_putStringAt_47b60 MJ5_putStringAt_47b60 2 := ⟨cfJ5_putStringAt_47b60, lk_J5_208, tb_in 834 (by decide +kernel) (by decide +kernel), tb_sb (by decide +kernel)⟩
theorem bf_J5_397 : BF_ RJ5 397 yJ5_inflateIfNeededFor_a7421 MJ5_inflateIfNeededFor_a7421 1 := ⟨cfJ5_inflateIfNeededFor_a7421, lk_J5_397, tb_in 838 (by decide +kernel) (by decide +kernel), tb_sb (by decide +kernel)⟩
theorem bf_J5_83 : BF_ RJ5 83 yJ5_isLatin1_aae02 MJ5_isLatin1_aae02 0 := ⟨cfJ5_isLatin1_aae02, lk_J5_83, tb_in 793 (by decide +kernel) (by decide +kernel), tb_in 795 (by decide +kernel) (by decide +kernel)⟩
