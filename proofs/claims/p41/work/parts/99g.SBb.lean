/-! the text that is written: its own cells -/
theorem kwJ4 : ∀ w ∈ u_ws RJ4 TJ4 4, w ∈ TBL := by
  show ∀ w ∈ [u_lay RJ4 TJ4 0, u_lay RJ4 TJ4 1, u_lay RJ4 TJ4 2, u_lay RJ4 TJ4 3], w ∈ TBL
  exact List.forall_mem_cons.mpr ⟨tb_in 685 (by decide +kernel) (by decide +kernel), List.forall_mem_cons.mpr ⟨tb_in 687 (by decide +kernel) (by decide +kernel), List.forall_mem_cons.mpr ⟨tb_in 689 (by decide +kernel) (by decide +kernel), List.forall_mem_cons.mpr ⟨tb_in 691 (by decide +kernel) (by decide +kernel), fun _ h => absurd h List.not_mem_nil⟩⟩⟩⟩
theorem sh_195 : sh_ 198 = (14, 4) := by decide +kernel
theorem sh_14 : ∀ n : Nat, n < 199 → n ≠ 198 → (sh_ n).1 ≠ 14 := by decide +kernel
theorem ce_same {ad ad' : AD} (e : ad'.2 = ad.2) (dA : Nat → ClassId) (s : Nat × Nat) (hs : s.1 ≠ 14) (f : Int → Int) : ce_ ad' dA s f = ce_ ad dA s f := by
  have er : ∀ z, rf_ ad' z = rf_ ad z := fun z => by unfold rf_; rw [e]
  have ef : ∀ (k : Nat) (z : Int), fv_ ad' k z = fv_ ad k z := fun k z => by
    match k with
    | 0 => rfl
    | 1 => rfl
    | k + 2 => exact congrArg va_rf (er z)
  obtain ⟨t, n⟩ := s
  match t, hs with
  | 0, _ => rfl
  | 1, _ => rfl
  | 2, _ => rfl
  | 3, _ => rfl
  | 4, _ => simp only [ce_, er]
  | 5, _ => simp only [ce_, er]
  | 16, _ => rfl
  | 17, _ => rfl
  | 18, _ => rfl
  | t + 19, _ => simp only [ce_, ef]
  | 6, _ => simp only [ce_, ef]
  | 7, _ => simp only [ce_, ef]
  | 8, _ => simp only [ce_, ef]
  | 9, _ => simp only [ce_, ef]
  | 10, _ => simp only [ce_, ef]
  | 11, _ => simp only [ce_, ef]
  | 12, _ => simp only [ce_, ef]
  | 13, _ => simp only [ce_, ef]
  | 14, h => exact absurd rfl h
  | 15, _ => simp only [ce_, ef]
section SBW
variable {ad ad' : AD} {dA : Nat → ClassId} {h h' : PH}
theorem wl_len : (wl_ ad dA nM h).length = 200 := by
  unfold wl_
  rw [if_pos (by decide)]
  simp
theorem wl_195 : (wl_ ad dA nM h)[198]? = some (ad.2 198, .inr (8, [.ref ad.1, .int 0, .int (Int32.ofInt (h 198 1)), .int (Int32.ofInt (h 198 0))])) := by
  have e := wl_get (ad := ad) (dA := dA) (N := nM) (h := h) (i := 198) (by decide) (by decide)
  rw [sh_195] at e
  exact e
theorem wl_225 : (wl_ ad dA nM h)[199]? = some (ad.1, .inl (dA 1, (h 198 (-1)).toNat, .inl fun k => Int32.ofInt (h 198 (10 + k)))) := by
  unfold wl_
  rw [if_pos (by decide), List.getElem?_append_right (by simp)]
  simp
theorem wl_none {k : Nat} (hk : 200 ≤ k) : (wl_ ad dA nM h)[k]? = none := List.getElem?_eq_none (by rw [wl_len]; exact hk)
theorem wl_ent (e : ad'.2 = ad.2) (eh : ∀ x : Int, x ≠ 198 → h' x = h x) {k : Nat} (hk : k < 199) (hne : k ≠ 198) : (wl_ ad' dA nM h')[k]? = (wl_ ad dA nM h)[k]? := by
  rw [wl_get hk hk, wl_get hk hk, e, eh k (by omega), ce_same e dA _ (sh_14 k hk hne)]
/-- a number of the text's own is written -/
theorem wl_B1 (eh : ∀ x : Int, x ≠ 198 → h' x = h x) (e1 : h' 198 (-1) = h 198 (-1)) (e2 : ∀ k : Nat, h' 198 (10 + k) = h 198 (10 + k)) : (wl_ ad dA nM h).set 198 (ad.2 198, .inr (8, [.ref ad.1, .int 0, .int (Int32.ofInt (h' 198 1)), .int (Int32.ofInt (h' 198 0))])) = wl_ ad dA nM h' := by
  refine List.ext_getElem? fun j => ?_
  by_cases b : j = 198
  · subst b
    rw [List.getElem?_set_self (by rw [wl_len]; decide), wl_195]
  · rw [List.getElem?_set_ne (fun z => b z.symm)]
    by_cases c : j < 199
    · exact (wl_ent rfl eh c b).symm
    · by_cases c2 : j = 199
      · subst c2
        rw [wl_225, wl_225, e1]
        simp only [e2]
      · rw [wl_none (by omega), wl_none (by omega)]
/-- its array is written -/
theorem wl_B2 (eh : ∀ x : Int, x ≠ 198 → h' x = h x) (e0 : h' 198 0 = h 198 0) (e1 : h' 198 1 = h 198 1) : (wl_ ad dA nM h).set 199 (ad.1, .inl (dA 1, (h' 198 (-1)).toNat, .inl fun k => Int32.ofInt (h' 198 (10 + k)))) = wl_ ad dA nM h' := by
  refine List.ext_getElem? fun j => ?_
  by_cases b : j = 199
  · subst b
    rw [List.getElem?_set_self (by rw [wl_len]; decide), wl_225]
  · rw [List.getElem?_set_ne (fun z => b z.symm)]
    by_cases c : j < 199
    · by_cases c2 : j = 198
      · subst c2
        rw [wl_195, wl_195, e0, e1]
      · exact (wl_ent rfl eh c c2).symm
    · rw [wl_none (by omega), wl_none (by omega)]
theorem rf_195 : ∀ q ∈ rfL_, ¬ q.1 = 198 := by decide +kernel
theorem g_B (hG : G h) (eh : ∀ x : Int, x ≠ 198 → h' x = h x) (hi : ∀ k : Int, inI (h' 198 k)) : G h' := by
  refine ⟨fun q hq => ?_, fun a k => ?_⟩
  · rw [eh q.1 (rf_195 q hq)]
    exact hG.1 q hq
  · by_cases e : a = 198
    · rw [e]
      exact hi k
    · rw [eh a e]
      exact hG.2 a k
theorem hs_B {k v : Int} : ∀ x : Int, x ≠ 198 → hs_ h 198 k v x = h x := fun x hx => funext fun y => hs_ne h (fun z => hx z.1)
theorem g_hs {k v : Int} (hG : G h) (hv : inI v) : G (hs_ h 198 k v) := g_B hG hs_B (fun y => hi_put hG.2 hv 198 y)
end SBW
section RULESB
variable {E : EP} {M : PM} {d bc bs : Nat} {Q : PQ} {F : FP} {PX : String → Nat → PH → Prop} {pc idx : Nat} {L st : List PV} {h : PH}
theorem s_getv (hd : decode M.2.1 pc = .ok (.getfield idx, 3)) (hw : Cond.fieldLink M.1 idx "java/lang/AbstractStringBuilder" "value" "[B" ∈ TBL) (k : SE_ E M d bc bs Q (pc + 3) L ((5, 0) :: st) nM h) : SE_ E M d bc bs Q pc L ((2, 198) :: st) nM h := by
  intro l s0 D dA ad p e R s m args below meth c H locs cells slots mc ms ls hG hC hW hL
  obtain ⟨⟨⟨hP, hD⟩, hb1, hb2, hb3⟩, hS⟩ := id hW
  exact va_get (C := RJ4) (T := TJ4) (N := 4) (cx_ex hC) (cx_cb hC) (cx_ts hC) kwJ4 (cx_own hC) (Gl_K hG (cx_al hC)) hP 198 wl_195 rfl 0 (by decide) ((cx_ts hC) _ hw) (fun _ q => q) (v := .ref ad.1) rfl hd
    (k l s0 D dA ad p e R s m args below meth c H locs cells slots mc ms ls hG hC hW hL)
theorem s_getk (hd : decode M.2.1 pc = .ok (.getfield idx, 3)) (hw : Cond.fieldLink M.1 idx "java/lang/AbstractStringBuilder" "coder" "B" ∈ TBL) (k : SE_ E M d bc bs Q (pc + 3) L ((0, 0) :: st) nM h) : SE_ E M d bc bs Q pc L ((2, 198) :: st) nM h := by
  intro l s0 D dA ad p e R s m args below meth c H locs cells slots mc ms ls hG hC hW hL
  obtain ⟨⟨⟨hP, hD⟩, hb1, hb2, hb3⟩, hS⟩ := id hW
  exact va_get (C := RJ4) (T := TJ4) (N := 4) (cx_ex hC) (cx_cb hC) (cx_ts hC) kwJ4 (cx_own hC) (Gl_K hG (cx_al hC)) hP 198 wl_195 rfl 1 (by decide) ((cx_ts hC) _ hw) (fun _ q => q) (v := .int 0) rfl hd
    (k l s0 D dA ad p e R s m args below meth c H locs cells slots mc ms ls hG hC hW hL)
theorem s_alen5 {v : Int} (hd : decode M.2.1 pc = .ok (.arraylength, 1)) (h0 : 0 ≤ h 198 (-1)) (hv : h 198 (-1) = v) (k : SE_ E M d bc bs Q (pc + 1) L ((0, v) :: st) nM h) : SE_ E M d bc bs Q pc L ((5, 0) :: st) nM h := by
  intro l s0 D dA ad p e R s m args below meth c H locs cells slots mc ms ls hG hC hW hL
  obtain ⟨⟨⟨hP, hD⟩, hb1, hb2, hb3⟩, hS⟩ := id hW
  refine va_alen (cx_ex hC) (cx_cb hC) (Gl_K hG (cx_al hC)) hP 199 1 wl_225 (ty := .byte) rfl (v := Int32.ofInt v) ?_ hd (k l s0 D dA ad p e R s m args below meth c H locs cells slots mc ms ls hG hC hW hL)
  show Int32.ofInt (((h 198 (-1)).toNat : Nat) : Int) = _
  rw [toN_ h0, hv]
theorem s_aload5 {i : Fin 4} (hd : decode M.2.1 pc = .ok (.aload_n i, 1)) (hi : L[(i : Nat)]? = some (5, 0)) {N : Nat} (k : SE_ E M d bc bs Q (pc + 1) L ((5, 0) :: st) N h) : SE_ E M d bc bs Q pc L st N h :=
  fun l s0 D dA ad p e R s m args below meth c H locs cells slots mc ms ls hG hC hW hL => lv_aload_n (cx_ex hC) (cx_cb hC) hd rfl (as_get hL hi (by decide)) (k l s0 D dA ad p e R s m args below meth c H locs cells slots mc ms ls hG hC hW hL)
theorem w5_getv (hd : decode M.2.1 pc = .ok (.getfield idx, 3)) (hw : Cond.fieldLink M.1 idx "java/lang/AbstractStringBuilder" "value" "[B" ∈ TBL) (k : SV_ F E M d bc bs PX (pc + 3) L ((5, 0) :: st) nM h) : SV_ F E M d bc bs PX pc L ((2, 198) :: st) nM h := by
  intro l s0 D dA ad p e R s m args below meth c H locs cells slots mc ms ls hG hC hW hL
  obtain ⟨⟨⟨hP, hD⟩, hb1, hb2, hb3⟩, hS⟩ := id hW
  exact va_get (C := RJ4) (T := TJ4) (N := 4) (cx_ex hC) (cx_cb hC) (cx_ts hC) kwJ4 (cx_own hC) (Gl_K hG (cx_al hC)) hP 198 wl_195 rfl 0 (by decide) ((cx_ts hC) _ hw) (fun _ q => q) (v := .ref ad.1) rfl hd
    (k l s0 D dA ad p e R s m args below meth c H locs cells slots mc ms ls hG hC hW hL)
theorem w5_getk (hd : decode M.2.1 pc = .ok (.getfield idx, 3)) (hw : Cond.fieldLink M.1 idx "java/lang/AbstractStringBuilder" "coder" "B" ∈ TBL) (k : SV_ F E M d bc bs PX (pc + 3) L ((0, 0) :: st) nM h) : SV_ F E M d bc bs PX pc L ((2, 198) :: st) nM h := by
  intro l s0 D dA ad p e R s m args below meth c H locs cells slots mc ms ls hG hC hW hL
  obtain ⟨⟨⟨hP, hD⟩, hb1, hb2, hb3⟩, hS⟩ := id hW
  exact va_get (C := RJ4) (T := TJ4) (N := 4) (cx_ex hC) (cx_cb hC) (cx_ts hC) kwJ4 (cx_own hC) (Gl_K hG (cx_al hC)) hP 198 wl_195 rfl 1 (by decide) ((cx_ts hC) _ hw) (fun _ q => q) (v := .int 0) rfl hd
    (k l s0 D dA ad p e R s m args below meth c H locs cells slots mc ms ls hG hC hW hL)
theorem w5_alen5 {v : Int} (hd : decode M.2.1 pc = .ok (.arraylength, 1)) (h0 : 0 ≤ h 198 (-1)) (hv : h 198 (-1) = v) (k : SV_ F E M d bc bs PX (pc + 1) L ((0, v) :: st) nM h) : SV_ F E M d bc bs PX pc L ((5, 0) :: st) nM h := by
  intro l s0 D dA ad p e R s m args below meth c H locs cells slots mc ms ls hG hC hW hL
  obtain ⟨⟨⟨hP, hD⟩, hb1, hb2, hb3⟩, hS⟩ := id hW
  refine va_alen (cx_ex hC) (cx_cb hC) (Gl_K hG (cx_al hC)) hP 199 1 wl_225 (ty := .byte) rfl (v := Int32.ofInt v) ?_ hd (k l s0 D dA ad p e R s m args below meth c H locs cells slots mc ms ls hG hC hW hL)
  show Int32.ofInt (((h 198 (-1)).toNat : Nat) : Int) = _
  rw [toN_ h0, hv]
theorem w5_aload5 {i : Fin 4} (hd : decode M.2.1 pc = .ok (.aload_n i, 1)) (hi : L[(i : Nat)]? = some (5, 0)) {N : Nat} (k : SV_ F E M d bc bs PX (pc + 1) L ((5, 0) :: st) N h) : SV_ F E M d bc bs PX pc L st N h :=
  fun l s0 D dA ad p e R s m args below meth c H locs cells slots mc ms ls hG hC hW hL => lv_aload_n (cx_ex hC) (cx_cb hC) hd rfl (as_get hL hi (by decide)) (k l s0 D dA ad p e R s m args below meth c H locs cells slots mc ms ls hG hC hW hL)
/-- how many letters are written -/
theorem s_getn {v : Int} (hd : decode M.2.1 pc = .ok (.getfield idx, 3)) (hw : Cond.fieldLink M.1 idx "java/lang/AbstractStringBuilder" "count" "I" ∈ TBL) (hv : h 198 0 = v) (k : SE_ E M d bc bs Q (pc + 3) L ((0, v) :: st) nM h) : SE_ E M d bc bs Q pc L ((2, 198) :: st) nM h := by
  subst hv
  intro l s0 D dA ad p e R s m args below meth c H locs cells slots mc ms ls hG hC hW hL
  obtain ⟨⟨⟨hP, hD⟩, hb1, hb2, hb3⟩, hS⟩ := id hW
  exact va_get (C := RJ4) (T := TJ4) (N := 4) (cx_ex hC) (cx_cb hC) (cx_ts hC) kwJ4 (cx_own hC) (Gl_K hG (cx_al hC)) hP 198 wl_195 rfl 3 (by decide) ((cx_ts hC) _ hw) (fun _ q => q) (v := .int (Int32.ofInt (h 198 0))) rfl hd
    (k l s0 D dA ad p e R s m args below meth c H locs cells slots mc ms ls hG hC hW hL)
theorem s_putn {x : Int} (hd : decode M.2.1 pc = .ok (.putfield idx, 3)) (hw : Cond.fieldLink M.1 idx "java/lang/AbstractStringBuilder" "count" "I" ∈ TBL) (k : SE_ E M d bc bs Q (pc + 3) L st nM (hs_ h 198 0 x)) : SE_ E M d bc bs Q pc L ((0, x) :: (2, 198) :: st) nM h := by
  intro l s0 D dA ad p e R s m args below meth c H locs cells slots mc ms ls hG hC hW hL
  obtain ⟨⟨⟨hP, hD⟩, hb1, hb2, hb3⟩, hS⟩ := id hW
  refine va_put (C := RJ4) (T := TJ4) (N := 4) (cx_ex hC) (cx_cb hC) (cx_ts hC) kwJ4 tyJ4 tyJ4_ok nmJ4 (cx_own hC) (Gl_K hG (cx_al hC)) hP hD hS 198 wl_195 rfl 3 (by decide) ((cx_ts hC) _ hw) (fun _ q => q) rfl (tyJ4_ok 3 (by decide)) (v := .int (Int32.ofInt x)) rfl rfl (show 3 < 4 by decide) hd ?_
  intro H1 locs1 hP1 hD1 hS1
  have e1 : (wl_ ad dA nM h).set 198 (ad.2 198, .inr (8, [.ref ad.1, .int 0, .int (Int32.ofInt (h 198 1)), .int (Int32.ofInt x)])) = wl_ ad dA nM (hs_ h 198 0 x) := by
    rw [← wl_B1 (h := h) (h' := hs_ h 198 0 x) hs_B (hs_ne _ (by omega)) (fun k => hs_ne _ (by omega)), hs_eq, hs_ne _ (by omega)]
  rw [show ([.ref ad.1, .int 0, .int (Int32.ofInt (h 198 1)), .int (Int32.ofInt (h 198 0))] : List Value).set 3 (.int (Int32.ofInt x)) = [.ref ad.1, .int 0, .int (Int32.ofInt (h 198 1)), .int (Int32.ofInt x)] from rfl, e1] at hP1 hD1
  exact k l s0 D dA ad p e R s m args below meth c H1 locs1 cells slots mc ms ls hG hC (Wd_put (by decide) (cx_sz hC) (cx_ag hC) hP1 hD1 hS1) hL
theorem s_putm {x : Int} (hd : decode M.2.1 pc = .ok (.putfield idx, 3)) (hw : Cond.fieldLink M.1 idx "java/lang/AbstractStringBuilder" "maybeLatin1" "Z" ∈ TBL) (hx : x = 0 ∨ x = 1) (k : SE_ E M d bc bs Q (pc + 3) L st nM (hs_ h 198 1 x)) : SE_ E M d bc bs Q pc L ((0, x) :: (2, 198) :: st) nM h := by
  intro l s0 D dA ad p e R s m args below meth c H locs cells slots mc ms ls hG hC hW hL
  obtain ⟨⟨⟨hP, hD⟩, hb1, hb2, hb3⟩, hS⟩ := id hW
  refine va_put (C := RJ4) (T := TJ4) (N := 4) (cx_ex hC) (cx_cb hC) (cx_ts hC) kwJ4 tyJ4 tyJ4_ok nmJ4 (cx_own hC) (Gl_K hG (cx_al hC)) hP hD hS 198 wl_195 rfl 2 (by decide) ((cx_ts hC) _ hw) (fun _ q => q) rfl (tyJ4_ok 2 (by decide)) (v := .int (Int32.ofInt x)) (by rcases hx with e | e <;> subst e <;> rfl) (by rcases hx with e | e <;> subst e <;> rfl) (show 2 < 4 by decide) hd ?_
  intro H1 locs1 hP1 hD1 hS1
  have e1 : (wl_ ad dA nM h).set 198 (ad.2 198, .inr (8, [.ref ad.1, .int 0, .int (Int32.ofInt x), .int (Int32.ofInt (h 198 0))])) = wl_ ad dA nM (hs_ h 198 1 x) := by
    rw [← wl_B1 (h := h) (h' := hs_ h 198 1 x) hs_B (hs_ne _ (by omega)) (fun k => hs_ne _ (by omega)), hs_eq, hs_ne _ (by omega)]
  rw [show ([.ref ad.1, .int 0, .int (Int32.ofInt (h 198 1)), .int (Int32.ofInt (h 198 0))] : List Value).set 2 (.int (Int32.ofInt x)) = [.ref ad.1, .int 0, .int (Int32.ofInt x), .int (Int32.ofInt (h 198 0))] from rfl, e1] at hP1 hD1
  exact k l s0 D dA ad p e R s m args below meth c H1 locs1 cells slots mc ms ls hG hC (Wd_put (by decide) (cx_sz hC) (cx_ag hC) hP1 hD1 hS1) hL
theorem s_dupx1 {v w : PV} {N : Nat} (hd : decode M.2.1 pc = .ok (.dup_x1, 1)) (hv : Nat.beq v.1 1 = false) (hw : Nat.beq w.1 1 = false) (k : SE_ E M d bc bs Q (pc + 1) L (v :: w :: v :: st) N h) : SE_ E M d bc bs Q pc L (v :: w :: st) N h :=
  fun l s0 D dA ad p e R s m args below meth c H locs cells slots mc ms ls hG hC hW hL => lv_dup_x1 (cx_ex hC) (cx_cb hC) hd (by rw [rv_cat, if_neg (fun z => by rw [z] at hv; cases hv)]) (by rw [rv_cat, if_neg (fun z => by rw [z] at hw; cases hw)]) (k l s0 D dA ad p e R s m args below meth c H locs cells slots mc ms ls hG hC hW hL)
theorem s_astore5 {i : Fin 4} {L' : List PV} {N : Nat} (hd : decode M.2.1 pc = .ok (.astore_n i, 1)) (hn : (i : Nat) < M.2.2.1) (hb : Nat.beq (L.getD ((i : Nat) - 1) (0, 0)).1 1 = false) (hs : L.set i (5, 0) = L') (k : SE_ E M d bc bs Q (pc + 1) L' st N h) : SE_ E M d bc bs Q pc L ((5, 0) :: st) N h :=
  fun l s0 D dA ad p e R s m args below meth c H locs cells slots mc ms ls hG hC hW hL => lv_astore_n (cx_ex hC) (cx_cb hC) hd rfl hL hn rfl (fun ls' h' => k l s0 D dA ad p e R s m args below meth c H locs cells slots mc ms ls' hG hC hW (hs ▸ as_set (v := (5, 0)) (by decide) hb h'))
theorem s_ifnonnull {x off : Int} {tgt N : Nat} (hd : decode M.2.1 pc = .ok (.ifnonnull off, 3)) (ht : (pc : Int) + off = (tgt : Int)) (k : SE_ E M d bc bs Q tgt L st N h) : SE_ E M d bc bs Q pc L ((2, x) :: st) N h :=
  fun l s0 D dA ad p e R s m args below meth c H locs cells slots mc ms ls hG hC hW hL => lv_ifnonnull (cx_ex hC) (cx_cb hC) hd ht (k l s0 D dA ad p e R s m args below meth c H locs cells slots mc ms ls hG hC hW hL)
theorem s_baload5 {i : Int} (hd : decode M.2.1 pc = .ok (.baload, 1)) (h0 : 0 ≤ i) (h1 : i < h 198 (-1)) (hc : h 198 (-1) < 2147483648) (kk : SE_ E M d bc bs Q (pc + 1) L ((0, h 198 (10 + i)) :: st) nM h) : SE_ E M d bc bs Q pc L ((0, i) :: (5, 0) :: st) nM h := by
  intro l s0 D dA ad p e R s m args below meth c H locs cells slots mc ms ls hG hC hW hL
  obtain ⟨⟨⟨hP, hD⟩, hb1, hb2, hb3⟩, hS⟩ := id hW
  refine va_bald (cx_ex hC) (cx_cb hC) (Gl_K hG (cx_al hC)) hP 199 1 wl_225 rfl (pI_in h0 (by rw [toN_ (by omega)]; exact h1) (by omega)) hd ?_
  rw [pI_cl h0 (by omega)]
  show W p l e R s m args below meth c H locs cells slots _ (F0 m (pc + 1) ls (Value.int (Int32.ofInt (h 198 (10 + ((i.toNat : Nat) : Int)))) :: List.map (rv_ ad) st))
  rw [toN_ h0]
  exact kk l s0 D dA ad p e R s m args below meth c H locs cells slots mc ms ls hG hC hW hL
theorem s_bastore5 {i v : Int} (hd : decode M.2.1 pc = .ok (.bastore, 1)) (h0 : 0 ≤ i) (h1 : i < h 198 (-1)) (hc : h 198 (-1) < 2147483648) (hv0 : -128 ≤ v) (hv1 : v < 128) (kk : SE_ E M d bc bs Q (pc + 1) L st nM (hs_ h 198 (10 + i) v)) : SE_ E M d bc bs Q pc L ((0, v) :: (0, i) :: (5, 0) :: st) nM h := by
  intro l s0 D dA ad p e R s m args below meth c H locs cells slots mc ms ls hG hC hW hL
  obtain ⟨⟨⟨hP, hD⟩, hb1, hb2, hb3⟩, hS⟩ := id hW
  refine va_bast (cx_ex hC) (cx_cb hC) (Gl_K hG (cx_al hC)) hP hD hS 199 1 wl_225 rfl (pI_in h0 (by rw [toN_ (by omega)]; exact h1) (by omega)) hd ?_
  intro H1 locs1 hP1 hD1 hS1
  have e1 : (wl_ ad dA nM h).set 199 (ad.1, .inl (dA 1, (h 198 (-1)).toNat, .inl (upd (fun k : Nat => Int32.ofInt (h 198 (10 + (k : Int)))) (Int32.ofInt i).toNatClampNeg (vp_nar .byte (Int32.ofInt v))))) = wl_ ad dA nM (hs_ h 198 (10 + i) v) := by
    rw [← wl_B2 (h := h) (h' := hs_ h 198 (10 + i) v) hs_B (hs_ne _ (by omega)) (hs_ne _ (by omega)), nar_b hv0 hv1, pI_cl h0 (by omega), hs_ne _ (by omega)]
    congr 6
    funext k
    by_cases e : k = i.toNat
    · subst e
      rw [toN_ h0, hs_eq]
      simp [upd]
    · rw [hs_ne _ (by omega)]
      simp [upd, e]
  rw [e1] at hP1 hD1
  exact kk l s0 D dA ad p e R s m args below meth c H1 locs1 cells slots mc ms ls hG hC (Wd_put (by decide) (cx_sz hC) (cx_ag hC) hP1 hD1 hS1) hL
/-- letters of a text that stands still are copied in -/
def cy_ (h : PH) (f : Nat → Int) (dp n : Int) : PH := fun x y => if x = 198 ∧ 10 + dp ≤ y ∧ y < 10 + dp + n then f (y - 10 - dp).toNat else h x y
theorem s_copyt {z dp n : Int} {k : Nat} {f : Nat → Int} (hd : decode M.2.1 pc = .ok (.invokestatic idx, 3)) (j : JC_ M.1 idx) (hK : ∀ (A : Nat → Prop) (U : State) (H : Heap) (ad : AD), Kx_ A U H ad.2 → va_T .byte (ad.2 z) k (fun i => .int (Int32.ofInt (f i))) A U H) (h2 : 0 ≤ dp) (h3 : 0 ≤ n) (h4 : n ≤ k) (h5 : dp + n ≤ h 198 (-1)) (hc : h 198 (-1) < 2147483648) (hk : k ≤ 1000) (hby : ∀ i : Nat, (i : Int) < n → -128 ≤ f i ∧ f i < 128) (hd1 : 1 ≤ d) (hcat : pcat_ st ≤ 8)
    (kk : SE_ E M d bc bs Q (pc + 3) L st nM (cy_ h f dp n)) : SE_ E M d bc bs Q pc L ((0, n) :: (0, dp) :: (5, 0) :: (0, 0) :: (2, z) :: st) nM h := by
  intro l s0 D dA ad p e R s m args below meth c H locs cells slots mc ms ls hG hC hW hL
  obtain ⟨⟨⟨hP, hD⟩, hb1, hb2, hb3⟩, hS⟩ := id hW
  have neg : ∀ z : Int, 0 ≤ z → z < 2147483648 → ¬ Int32.ofInt z < 0 := fun z z0 z1 q => by
    have := (pI_lt (y := 0) ⟨by omega, z1⟩ inI0).mp q
    omega
  have hlo := cx_lo hC
  refine vk_copyt (cx_ex hC) (cx_cb hC) ((cx_ml hC).trans hL.1.symm) (cx_own hC) (cx_ts hC _ j.1) (cx_ts hC _ j.2.1) (cx_ts hC _ j.2.2.1) (cx_ts hC _ j.2.2.2) (Gl_K hG (cx_al hC)) hP hD hS (hK _ _ _ ad (kx_at hG hC)) 199 1 wl_225 rfl (neg 0 (by omega) (by omega)) (neg dp h2 (by omega)) (neg n h3 (by omega)) (by rw [pI_cl (i := 0) (by omega) (by omega), pI_cl h3 (by omega)]; omega) (by rw [pI_cl h2 (by omega), pI_cl h3 (by omega)]; omega) (fun i hi => ?_) (Nat.le_trans hd1 (cx_fr hC)) ?_ hd ?_
  · rw [pI_cl (i := 0) (by omega) (by omega)]
    rw [pI_cl h3 (by omega)] at hi
    have q := hby i (by omega)
    show fits .byte (.int (Int32.ofInt (f (0 + i)))) = true
    rw [Nat.zero_add]
    exact fit_b q.1 q.2
  · rw [pcat_eq]
    have e : nativeFrameWords "java/lang/System" "arraycopy" 5 + 11 ≤ 24 := by decide
    omega
  · intro H1 locs1 hP1 hD1 hS1
    have e1 : (wl_ ad dA nM h).set 199 (ad.1, .inl (dA 1, (h 198 (-1)).toNat, .inl (va_cpy (fun i : Nat => Int32.ofInt (f i)) (fun k : Nat => Int32.ofInt (h 198 (10 + (k : Int)))) (Int32.ofInt 0).toNatClampNeg (Int32.ofInt dp).toNatClampNeg (Int32.ofInt n).toNatClampNeg))) = wl_ ad dA nM (cy_ h f dp n) := by
      have eB : ∀ x : Int, x ≠ 198 → cy_ h f dp n x = h x := fun x hx => funext fun y => if_neg (fun q => hx q.1)
      rw [← wl_B2 (h := h) (h' := cy_ h f dp n) eB (if_neg (by omega)) (if_neg (by omega)), pI_cl (i := 0) (by omega) (by omega), pI_cl h2 (by omega), pI_cl h3 (by omega), show cy_ h f dp n 198 (-1) = h 198 (-1) from if_neg (by omega)]
      congr 6
      funext k
      unfold va_cpy cy_
      by_cases e : dp.toNat ≤ k ∧ k < dp.toNat + n.toNat
      · rw [if_pos e, if_pos ⟨rfl, by omega, by omega⟩]
        congr 2
        omega
      · rw [if_neg e, if_neg (by omega)]
    rw [e1] at hP1 hD1
    exact kk l s0 D dA ad p e R s m args below meth c H1 locs1 cells slots mc ms ls hG hC (Wd_put (by decide) (cx_sz hC) (cx_ag hC) hP1 hD1 hS1) hL
end RULESB
