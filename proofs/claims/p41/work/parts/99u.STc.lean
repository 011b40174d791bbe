/-! the String and its bytes as cells that say themselves where they stand; the row of five numbers -/
theorem va_perm {A : Nat → Prop} {D : va_G} {ws ws' : va_W} {H : Heap} (f : Nat → Nat) (hf : ∀ (k : Nat) (x : Nat × va_E), ws'[k]? = some x → ws[f k]? = some x) (hi : ∀ i j : Nat, i < ws'.length → j < ws'.length → f i = f j → i = j) (hP : va_P D ucl ws H) (hD : va_D A ws) : va_P D ucl ws' H ∧ va_D A ws' := by
  refine ⟨fun k x hk => hP (f k) x (hf k x hk), fun i j x y hx hy e => ?_, fun k x hk => hD.2 (f k) x (hf k x hk)⟩
  exact hi i j (List.getElem?_eq_some_iff.mp hx).1 (List.getElem?_eq_some_iff.mp hy).1 (hD.1 _ _ x y (hf i x hx) (hf j y hy) e)
theorem sh_199 : sh_ 199 = (16, 99) := by decide +kernel
theorem sh_200 : sh_ 200 = (17, 99) := by decide +kernel
theorem sh_201 : sh_ 201 = (18, 99) := by decide +kernel
def sx_ (h : PH) (q b n : Nat) (g : Nat → Int) : PH := fun x y =>
  if x = 199 then (if y ≤ -9 then (if -9 - y < q then 1 else 0) else if y = 20 then 1 else if 1000 ≤ y then (if y - 1000 < b then 1 else 0) else 0)
  else if x = 200 then (if y ≤ -9 then (if -9 - y < b then 1 else 0) else if y = -1 then n else if 0 ≤ y then g y.toNat else 0)
  else h x y
def wy_ (h : PH) (w : Nat) : PH := fun x y => if x = 201 then (if y ≤ -9 then (if -9 - y < w then 1 else 0) else 0) else h x y
/-- the String at q holds these letters -/
def ST_ (h : PH) (q : Nat) (n : Nat) (f : Int → Int) : Prop := ua_ (-9) (h 199) = q ∧ h 199 20 = 1 ∧ h 199 1 = 0 ∧ h 200 (-1) = n ∧ (ua_ 0 fun y => h 199 (1000 - y)) = ua_ (-9) (h 200) ∧ ∀ k : Int, 0 ≤ k → k < n → h 200 k = f k
theorem sx_199 {h : PH} {q b n : Nat} {g : Nat → Int} (y : Int) : sx_ h q b n g 199 y = (if y ≤ -9 then (if -9 - y < q then 1 else 0) else if y = 20 then 1 else if 1000 ≤ y then (if y - 1000 < b then 1 else 0) else 0) := by
  unfold sx_
  rw [if_pos rfl]
theorem sx_200 {h : PH} {q b n : Nat} {g : Nat → Int} (y : Int) : sx_ h q b n g 200 y = (if y ≤ -9 then (if -9 - y < b then 1 else 0) else if y = -1 then (n : Int) else if 0 ≤ y then g y.toNat else 0) := by
  unfold sx_
  rw [if_neg (by decide), if_pos rfl]
theorem sx_ne {h : PH} {q b n : Nat} {g : Nat → Int} {x : Int} (h1 : x ≠ 199) (h2 : x ≠ 200) : sx_ h q b n g x = h x := by
  funext y
  unfold sx_
  rw [if_neg h1, if_neg h2]
theorem ua_9 {f : Int → Int} {q : Nat} (e : ∀ y : Int, y ≤ -9 → f y = if -9 - y < q then 1 else 0) : ua_ (-9) f = q := by
  refine ua_of fun b => ?_
  rw [e _ (by omega)]
  by_cases c : b < q
  · rw [if_pos c, if_pos (by omega)]
  · rw [if_neg c, if_neg (by omega)]
theorem sx_q {h : PH} {q b n : Nat} {g : Nat → Int} : ua_ (-9) (sx_ h q b n g 199) = q := ua_9 fun y hy => by rw [sx_199, if_pos hy]
theorem sx_b {h : PH} {q b n : Nat} {g : Nat → Int} : ua_ (-9) (sx_ h q b n g 200) = b := ua_9 fun y hy => by rw [sx_200, if_pos hy]
theorem sx_v {h : PH} {q b n : Nat} {g : Nat → Int} : (ua_ 0 fun y => sx_ h q b n g 199 (1000 - y)) = b := by
  refine ua_of fun x => ?_
  rw [sx_199, if_neg (by omega), if_neg (by omega), if_pos (by omega)]
  by_cases c : x < b
  · rw [if_pos c, if_pos (by omega)]
  · rw [if_neg c, if_neg (by omega)]
theorem st_sx {h : PH} {q b n : Nat} {g : Nat → Int} : ST_ (sx_ h q b n g) q n (fun k => g k.toNat) := by
  refine ⟨sx_q, ?_, ?_, ?_, sx_v.trans sx_b.symm, fun k h0 h1 => ?_⟩
  · rw [sx_199, if_neg (by decide), if_pos rfl]
  · rw [sx_199, if_neg (by decide), if_neg (by decide), if_neg (by decide)]
  · rw [sx_200, if_neg (by decide), if_pos rfl]
  · rw [sx_200, if_neg (by omega), if_neg (by omega), if_pos h0]
theorem st_to {h h' : PH} {q n : Nat} {f : Int → Int} (T : ST_ h q n f) (e1 : h' 199 = h 199) (e2 : h' 200 = h 200) : ST_ h' q n f := by
  unfold ST_ at T ⊢
  rw [e1, e2]
  exact T
theorem rf_199 : ∀ q ∈ rfL_, ¬ q.1 = 199 ∧ ¬ q.1 = 200 ∧ ¬ q.1 = 201 := by decide +kernel
theorem g_sx {h : PH} {q b n : Nat} {g : Nat → Int} (hG : G h) (hn : n < 2147483648) (hg : ∀ k, inI (g k)) : G (sx_ h q b n g) := by
  refine ⟨fun x hx => ?_, fun a k => ?_⟩
  · have r := rf_199 x hx
    rw [sx_ne r.1 r.2.1]
    exact hG.1 x hx
  · by_cases c : a = 199
    · subst c
      rw [sx_199]
      split
      · split <;> exact ⟨by decide, by decide⟩
      · split
        · exact ⟨by decide, by decide⟩
        · split
          · split <;> exact ⟨by decide, by decide⟩
          · exact inI0
    · by_cases c2 : a = 200
      · subst c2
        rw [sx_200]
        split
        · split <;> exact ⟨by decide, by decide⟩
        · split
          · exact ⟨by omega, by omega⟩
          · split
            · exact hg _
            · exact inI0
      · rw [sx_ne c c2]
        exact hG.2 a k
theorem wy_ne {h : PH} {w : Nat} {x : Int} (h1 : x ≠ 201) : wy_ h w x = h x := by
  funext y
  unfold wy_
  rw [if_neg h1]
theorem wy_201 {h : PH} {w : Nat} (y : Int) : wy_ h w 201 y = if y ≤ -9 then (if -9 - y < w then 1 else 0) else 0 := by
  unfold wy_
  rw [if_pos rfl]
theorem wy_q {h : PH} {w : Nat} : ua_ (-9) (wy_ h w 201) = w := ua_9 fun y hy => by rw [wy_201, if_pos hy]
theorem wy_0 {h : PH} {w : Nat} {y : Int} (hy : -9 < y) : wy_ h w 201 y = 0 := by rw [wy_201, if_neg (by omega)]
theorem g_wx {h : PH} {w : Nat} (hG : G h) : G (wy_ h w) := by
  refine ⟨fun x hx => ?_, fun a k => ?_⟩
  · rw [wy_ne (rf_199 x hx).2.2]
    exact hG.1 x hx
  · by_cases c : a = 201
    · subst c
      rw [wy_201]
      split
      · split <;> exact ⟨by decide, by decide⟩
      · exact inI0
    · rw [wy_ne c]
      exact hG.2 a k
theorem ua_congr {k : Int} {f g : Int → Int} (e : ∀ b : Nat, f (k - b) = g (k - b)) : ua_ k f = ua_ k g := by
  by_cases c : ∃ q : Nat, ∀ b : Nat, g (k - b) = if b < q then 1 else 0
  · obtain ⟨q, hq⟩ := c
    rw [ua_of hq, ua_of (fun b => (e b).trans (hq b))]
  · have c2 : ¬ ∃ q : Nat, ∀ b : Nat, f (k - b) = if b < q then 1 else 0 := fun ⟨q, hq⟩ => c ⟨q, fun b => (e b).symm.trans (hq b)⟩
    unfold ua_
    rw [dif_neg c, dif_neg c2]
section WLX
variable {ad : AD} {dA : Nat → ClassId} {N : Nat} {h : PH}
theorem wl_lenN (hN : 198 < N) : (wl_ ad dA N h).length = N + 1 := by
  unfold wl_
  rw [if_pos hN]
  simp
theorem wl_sp (hN : 198 < N) : (wl_ ad dA N h)[N]? = some (ad.1, .inl (dA 1, (h 198 (-1)).toNat, .inl fun k => Int32.ofInt (h 198 (10 + k)))) := by
  unfold wl_
  rw [if_pos hN, List.getElem?_append_right (by simp)]
  simp
theorem wl_str {q n : Nat} {f : Int → Int} (hN : 199 < N) (T : ST_ h q n f) : (wl_ ad dA N h)[199]? = some (q, .inr (10, [.ref (ua_ (-9) (h 200)), .int 0, .int (Int32.ofInt (h 199 2)), .int (Int32.ofInt (h 199 3))])) := by
  have e := wl_getA (ad := ad) (dA := dA) (h := h) hN
  rw [aa_, if_neg (by decide), sh_199] at e
  rw [e]
  show some ((ua_ (-9) (h 199), (.inr (10, [va_rf (if h 199 20 = 0 then none else some (ua_ 0 fun y => h 199 (1000 - y))), .int (Int32.ofInt (h 199 1)), .int (Int32.ofInt (h 199 2)), .int (Int32.ofInt (h 199 3))]) : va_E))) = _
  rw [T.1, T.2.1, T.2.2.1, T.2.2.2.2.1, if_neg (by decide)]
  rfl
theorem wl_byt {q n : Nat} {f : Int → Int} (hN : 200 < N) (T : ST_ h q n f) : (wl_ ad dA N h)[200]? = some (ua_ (-9) (h 200), .inl (dA 1, n, .inl fun k => Int32.ofInt (h 200 k))) := by
  have e := wl_getA (ad := ad) (dA := dA) (h := h) hN
  rw [aa_, if_neg (by decide), sh_200] at e
  rw [e]
  show some ((ua_ (-9) (h 200), (.inl (dA 1, (h 200 (-1)).toNat, .inl fun k => Int32.ofInt (h 200 k)) : va_E))) = _
  rw [T.2.2.2.1]
  rfl
theorem wl_row {w : Nat} (hw : ua_ (-9) (h 201) = w) : (wl_ ad dA 202 h)[201]? = some (w, .inl (dA 0, 5, .inl fun k => Int32.ofInt (h 201 k))) := by
  have e := wl_getA (ad := ad) (dA := dA) (N := 202) (h := h) (i := 201) (by decide)
  rw [aa_, if_neg (by decide), sh_201] at e
  rw [e]
  show some ((ua_ (-9) (h 201), (.inl (dA 0, 5, .inl fun k => Int32.ofInt (h 201 k)) : va_E))) = _
  rw [hw]
theorem wl_rowset {w : Nat} {i v : Int} (hw : ua_ (-9) (h 201) = w) (hi : -9 < i) : (wl_ ad dA 202 h).set 201 (w, .inl (dA 0, 5, .inl fun k => Int32.ofInt (hs_ h 201 i v 201 k))) = wl_ ad dA 202 (hs_ h 201 i v) := by
  have hw2 : ua_ (-9) (hs_ h 201 i v 201) = w := by
    rw [← hw]
    exact ua_congr fun b => hs_ne _ (fun z => by omega)
  have e1 : ∀ x : Int, x ≠ 201 → hs_ h 201 i v x = h x := fun x hx => funext fun y => hs_ne h (fun z => hx z.1)
  refine List.ext_getElem? fun j => ?_
  by_cases c : j = 201
  · subst c
    rw [List.getElem?_set_self (by rw [wl_lenN (by decide)]; decide), wl_row hw2]
  · rw [List.getElem?_set_ne (fun z => c z.symm)]
    by_cases c2 : j < 202
    · rw [wl_getA c2, wl_getA c2, e1 j (by omega)]
    · by_cases c3 : j = 202
      · subst c3
        rw [wl_sp (by decide), wl_sp (by decide), e1 198 (by decide)]
      · rw [List.getElem?_eq_none (by rw [wl_lenN (by decide)]; omega), List.getElem?_eq_none (by rw [wl_lenN (by decide)]; omega)]
end WLX
/-- a cell more, or less -/
theorem wl_more {A : Nat → Prop} {D : va_G} {ad : AD} {dA : Nat → ClassId} {h h' : PH} {H : Heap} {w : Nat} {e : va_E} {N : Nat} (hN : 198 < N) (eh : ∀ x : Nat, x < N → h' x = h x) (ew : aa_ ad (h' N) N = w) (ee : ce_ ad dA (sh_ N) (h' N) = e) (hP : va_P D ucl (wl_ ad dA N h ++ [(w, e)]) H) (hD : va_D A (wl_ ad dA N h ++ [(w, e)])) : va_P D ucl (wl_ ad dA (N + 1) h') H ∧ va_D A (wl_ ad dA (N + 1) h') := by
  refine va_perm (fun k => if k < N then k else if k = N then N + 1 else N) (fun k x hk => ?_) (fun i j hi hj hij => ?_) hP hD
  · by_cases c : k < N
    · rw [wl_getA (by omega)] at hk
      show (wl_ ad dA N h ++ [(w, e)])[if k < N then k else if k = N then N + 1 else N]? = _
      rw [if_pos c, List.getElem?_append_left (by rw [wl_lenN hN]; omega), wl_getA c, ← hk, eh k c]
    · by_cases c2 : k = N
      · subst c2
        rw [wl_getA (by omega), ew, ee] at hk
        show (wl_ ad dA k h ++ [(w, e)])[if k < k then k else if k = k then k + 1 else k]? = _
        rw [if_neg c, if_pos rfl, List.getElem?_append_right (by rw [wl_lenN hN]; omega), wl_lenN hN, Nat.sub_self]
        exact hk
      · have c3 : k = N + 1 := by
          have := (List.getElem?_eq_some_iff.mp hk).1
          rw [wl_lenN (by omega)] at this
          omega
        subst c3
        rw [wl_sp (by omega)] at hk
        show (wl_ ad dA N h ++ [(w, e)])[if N + 1 < N then N + 1 else if N + 1 = N then N + 1 else N]? = _
        rw [if_neg (by omega), if_neg (by omega), List.getElem?_append_left (by rw [wl_lenN hN]; omega), wl_sp hN, ← hk]
        have e8 : h' 198 = h 198 := eh 198 hN
        rw [e8]
  · rw [wl_lenN (by omega)] at hi hj
    split at hij <;> split at hij <;> (try split at hij) <;> (try split at hij) <;> omega
theorem wl_less {A : Nat → Prop} {D : va_G} {ad : AD} {dA : Nat → ClassId} {h : PH} {H : Heap} {N : Nat} (hN : 198 < N) (hP : va_P D ucl (wl_ ad dA (N + 1) h) H) (hD : va_D A (wl_ ad dA (N + 1) h)) : va_P D ucl (wl_ ad dA N h) H ∧ va_D A (wl_ ad dA N h) := by
  refine va_perm (fun k => if k < N then k else k + 1) (fun k x hk => ?_) (fun i j hi hj hij => ?_) hP hD
  · by_cases c : k < N
    · rw [wl_getA c] at hk
      show (wl_ ad dA (N + 1) h)[if k < N then k else k + 1]? = _
      rw [if_pos c, wl_getA (by omega), hk]
    · have c3 : k = N := by
        have := (List.getElem?_eq_some_iff.mp hk).1
        rw [wl_lenN hN] at this
        omega
      subst c3
      rw [wl_sp hN] at hk
      show (wl_ ad dA (k + 1) h)[if k < k then k else k + 1]? = _
      rw [if_neg c, wl_sp (by omega), hk]
  · split at hij <;> split at hij <;> omega
/-- the String's world -/
theorem wl_st {A : Nat → Prop} {D : va_G} {ad : AD} {dA : Nat → ClassId} {h : PH} {H : Heap} {q b n : Nat} {g : Nat → Int32} (hP : va_P D ucl (wl_ ad dA 199 h ++ [(q, .inr (10, [.ref b, .int 0, .int 0, .int 0])), (b, .inl (dA 1, (n, .inl g)))]) H) (hD : va_D A (wl_ ad dA 199 h ++ [(q, .inr (10, [.ref b, .int 0, .int 0, .int 0])), (b, .inl (dA 1, (n, .inl g)))])) : va_P D ucl (wl_ ad dA 201 (sx_ h q b n fun k => (g k).toInt)) H ∧ va_D A (wl_ ad dA 201 (sx_ h q b n fun k => (g k).toInt)) := by
  refine va_perm (fun k => if k < 199 then k else if k = 201 then 199 else k + 1) (fun k x hk => ?_) (fun i j hi hj hij => ?_) hP hD
  · by_cases c : k < 199
    · rw [wl_getA (by omega), sx_ne (by omega) (by omega)] at hk
      show (wl_ ad dA 199 h ++ [_, _])[if k < 199 then k else if k = 201 then 199 else k + 1]? = _
      rw [if_pos c, List.getElem?_append_left (by rw [wl_lenN (by decide)]; omega), wl_getA c, ← hk]
    · have c9 : k < 202 := by
        have := (List.getElem?_eq_some_iff.mp hk).1
        rw [wl_lenN (by decide)] at this
        omega
      by_cases c1 : k = 199
      · subst c1
        rw [wl_str (q := q) (n := n) (f := fun k => (g k.toNat).toInt) (by decide) st_sx, sx_b, sx_199, sx_199] at hk
        show (wl_ ad dA 199 h ++ [_, _])[200]? = _
        rw [List.getElem?_append_right (by rw [wl_lenN (by decide)]; decide), wl_lenN (by decide)]
        exact hk
      · by_cases c2 : k = 200
        · subst c2
          rw [wl_byt (q := q) (n := n) (f := fun k => (g k.toNat).toInt) (by decide) st_sx, sx_b] at hk
          show (wl_ ad dA 199 h ++ [_, _])[201]? = _
          rw [List.getElem?_append_right (by rw [wl_lenN (by decide)]; decide), wl_lenN (by decide)]
          have eg : (fun k : Nat => Int32.ofInt (sx_ h q b n (fun k => (g k).toInt) 200 k)) = g := by
            funext k
            rw [sx_200, if_neg (by omega), if_neg (by omega), if_pos (by omega), Int.toNat_natCast, Int32.ofInt_toInt]
          rw [eg] at hk
          exact hk
        · have c3 : k = 201 := by omega
          subst c3
          rw [wl_sp (by decide), sx_ne (by decide) (by decide)] at hk
          show (wl_ ad dA 199 h ++ [_, _])[199]? = _
          rw [List.getElem?_append_left (by rw [wl_lenN (by decide)]; decide), wl_sp (by decide)]
          exact hk
  · rw [wl_lenN (by decide)] at hi hj
    split at hij <;> split at hij <;> (try split at hij) <;> (try split at hij) <;> omega
theorem ne69 : (6 : Nat) ≠ 9 := by decide
theorem ne61 : (6 : Nat) ≠ 1 := by decide
section STRR
variable {E : EP} {M M' : PM} {d d' bc bs bc' bs' : Nat} {Q : PQ} {pc idx n' : Nat} {L st stk as : List PV} {N : Nat} {h : PH} {q n : Nat} {f : Int → Int}
set_option maxRecDepth 100000 in
set_option maxHeartbeats 4000000 in
/-- s.toString() and the end of text -/
theorem s_toStr {u : UT} (hd : 7 ≤ d) (T : TW_ h u) (hb : 2 ≤ bc ∧ u.1.toNat + 4 ≤ bs) (h5 : nk5_ L = true) (k : ∀ (q b : Nat) (g : Nat → Int), (∀ k : Nat, (k : Int) < u.1 → g k = u.2 k) → (∀ k, inI (g k)) → Q.1 (some (6, (q : Int))) 201 (sx_ h q b u.1.toNat g)) : SE_ E0_ ML_text d bc bs Q 617 L [(2, 198)] nM h := by
  obtain ⟨t1, ⟨⟨b1, b2⟩, ⟨b3, b4⟩, b5⟩, t3, t4, t5⟩ := T
  intro l s0 D dA ad p e R s m args below meth c H locs cells slots mc ms ls hG hC hW hL
  have hWS : WS_ s0 D (wl_ ad dA nM h) H := ⟨hW.1.1, hW.1.2.1, hW.1.2.2.1⟩
  refine r_callB (d' := d - 1) (bc' := 2) (bs' := u.1.toNat + 4) (as := []) (rest := []) (stk := [.ref (ad.2 198)]) hG hC hWS hW.2 hL.1 wl_195 dL_text_617 bf_L_67 (dd_ (by omega) (by decide)) hb rfl rfl (Nat.le_of_ble_eq_true rfl) (rm_toString (q1 := 199) (h := h) (by omega) b3 b4 (by omega) (Nat.le_refl _) (by rw [t4]; omega) hG ⟨wl_195, wl_225⟩ (fun j h0 h1 => b5 j h0 (by omega))) ?_
  rintro v w1 H1 locs1 ⟨q, rfl, b, g, rfl, hg⟩ hW1 hS1
  have hC1 := Cx_use hC hb
  have w := wl_st hW1.1.1 hW1.1.2
  have hk := k q b (fun j => (g j).toInt) (fun j hj => by
    rw [hg j (by rw [t4]; omega)]
    show (Int32.ofInt (h 198 (10 + (j : Int)))).toInt = _
    rw [t5 j (by omega) hj]
    have := b5 j (by omega) (by omega)
    rw [t5 j (by omega) hj] at this
    exact inI_to ⟨by omega, by omega⟩) (fun j => ⟨Int32.le_toInt _, Int32.toInt_lt _⟩)
  rw [← t4] at hk
  refine W.widen (k := mc) (n := ms) (by have := (cx_bc hC1); omega) (by have := (cx_bs hC1); omega) (vx_ret ?_)
  exact W.aret (cx_ex hC1) (cx_cb hC1) ((cx_rt hC1).trans rfl) (Or.inl ⟨_, rfl⟩) (Or.inr ⟨q, rfl⟩) (fun t ht _ => ⟨⟨ad, some (6, (q : Int)), 201, _, rfl, rfl, hk, by rw [ht]; exact ⟨w, hW1.2.1, hW1.2.2, fun z => absurd z (by decide)⟩⟩, hS1.F ht⟩) (fun x hx => hS1.2.2 x hx) dL_text_620 (cx_lk hC1)
theorem s_aload6_n {i : Fin 4} {x : Int} (hd : decode M.2.1 pc = .ok (.aload_n i, 1)) (hi : L[(i : Nat)]? = some (6, x)) (k : SE_ E M d bc bs Q (pc + 1) L ((6, x) :: st) N h) : SE_ E M d bc bs Q pc L st N h :=
  fun l s0 D dA ad p e R s m args below meth c H locs cells slots mc ms ls hG hC hW hL => lv_aload_n (cx_ex hC) (cx_cb hC) hd rfl (as_get hL hi ne69) (k l s0 D dA ad p e R s m args below meth c H locs cells slots mc ms ls hG hC hW hL)
theorem s_aload6 {i : Nat} {x : Int} (hd : decode M.2.1 pc = .ok (.aload i, 2)) (hi : L[i]? = some (6, x)) (k : SE_ E M d bc bs Q (pc + 2) L ((6, x) :: st) N h) : SE_ E M d bc bs Q pc L st N h :=
  fun l s0 D dA ad p e R s m args below meth c H locs cells slots mc ms ls hG hC hW hL => lv_aload (cx_ex hC) (cx_cb hC) hd (as_get hL hi ne69) (k l s0 D dA ad p e R s m args below meth c H locs cells slots mc ms ls hG hC hW hL)
theorem s_astore6_n {i : Fin 4} {x : Int} {L' : List PV} (hd : decode M.2.1 pc = .ok (.astore_n i, 1)) (hn : (i : Nat) < M.2.2.1) (hb : Nat.beq (L.getD ((i : Nat) - 1) (0, 0)).1 1 = false) (hs : L.set i (6, x) = L') (k : SE_ E M d bc bs Q (pc + 1) L' st N h) : SE_ E M d bc bs Q pc L ((6, x) :: st) N h :=
  fun l s0 D dA ad p e R s m args below meth c H locs cells slots mc ms ls hG hC hW hL => lv_astore_n (cx_ex hC) (cx_cb hC) hd rfl hL hn rfl (fun ls' h' => k l s0 D dA ad p e R s m args below meth c H locs cells slots mc ms ls' hG hC hW (hs ▸ as_set (v := (6, x)) ne61 hb h'))
theorem s_astore6 {i : Nat} {x : Int} {L' : List PV} (hd : decode M.2.1 pc = .ok (.astore i, 2)) (hn : i < M.2.2.1) (hb : Nat.beq (L.getD (i - 1) (0, 0)).1 1 = false) (hs : L.set i (6, x) = L') (k : SE_ E M d bc bs Q (pc + 2) L' st N h) : SE_ E M d bc bs Q pc L ((6, x) :: st) N h :=
  fun l s0 D dA ad p e R s m args below meth c H locs cells slots mc ms ls hG hC hW hL => lv_astore (cx_ex hC) (cx_cb hC) hd hL hn rfl (fun ls' h' => k l s0 D dA ad p e R s m args below meth c H locs cells slots mc ms ls' hG hC hW (hs ▸ as_set (v := (6, x)) ne61 hb h'))
theorem s_strv (hd : decode M.2.1 pc = .ok (.getfield idx, 3)) (hw : Cond.fieldLink M.1 idx "java/lang/String" "value" "[B" ∈ TBL) (hN : 199 < N) (T : ST_ h q n f) (k : SE_ E M d bc bs Q (pc + 3) L ((6, ((ua_ (-9) (h 200) : Nat) : Int)) :: st) N h) : SE_ E M d bc bs Q pc L ((6, (q : Int)) :: st) N h := by
  intro l s0 D dA ad p e R s m args below meth c H locs cells slots mc ms ls hG hC hW hL
  exact va_get (C := RJ0) (T := TJ0) (N := 4) (cx_ex hC) (cx_cb hC) (cx_ts hC) kwJ0 (cx_own hC) (Gl_K hG (cx_al hC)) hW.1.1.1 199 (wl_str hN T) rfl 0 (by decide) ((cx_ts hC) _ hw) (fun _ q => q) (v := .ref (ua_ (-9) (h 200))) rfl hd
    (k l s0 D dA ad p e R s m args below meth c H locs cells slots mc ms ls hG hC hW hL)
theorem s_strk (hd : decode M.2.1 pc = .ok (.getfield idx, 3)) (hw : Cond.fieldLink M.1 idx "java/lang/String" "coder" "B" ∈ TBL) (hN : 199 < N) (T : ST_ h q n f) (k : SE_ E M d bc bs Q (pc + 3) L ((0, 0) :: st) N h) : SE_ E M d bc bs Q pc L ((6, (q : Int)) :: st) N h := by
  intro l s0 D dA ad p e R s m args below meth c H locs cells slots mc ms ls hG hC hW hL
  exact va_get (C := RJ0) (T := TJ0) (N := 4) (cx_ex hC) (cx_cb hC) (cx_ts hC) kwJ0 (cx_own hC) (Gl_K hG (cx_al hC)) hW.1.1.1 199 (wl_str hN T) rfl 1 (by decide) ((cx_ts hC) _ hw) (fun _ q => q) (v := .int 0) rfl hd
    (k l s0 D dA ad p e R s m args below meth c H locs cells slots mc ms ls hG hC hW hL)
theorem s_strn (hd : decode M.2.1 pc = .ok (.arraylength, 1)) (hN : 200 < N) (T : ST_ h q n f) (k : SE_ E M d bc bs Q (pc + 1) L ((0, (n : Int)) :: st) N h) : SE_ E M d bc bs Q pc L ((6, ((ua_ (-9) (h 200) : Nat) : Int)) :: st) N h := by
  intro l s0 D dA ad p e R s m args below meth c H locs cells slots mc ms ls hG hC hW hL
  exact va_alen (cx_ex hC) (cx_cb hC) (Gl_K hG (cx_al hC)) hW.1.1.1 200 1 (wl_byt hN T) (ty := .byte) rfl (v := Int32.ofInt n) rfl hd (k l s0 D dA ad p e R s m args below meth c H locs cells slots mc ms ls hG hC hW hL)
theorem s_strb {i : Int} (hd : decode M.2.1 pc = .ok (.baload, 1)) (hN : 200 < N) (T : ST_ h q n f) (h0 : 0 ≤ i) (h1 : i < n) (hn : n < 2147483648) (k : SE_ E M d bc bs Q (pc + 1) L ((0, f i) :: st) N h) : SE_ E M d bc bs Q pc L ((0, i) :: (6, ((ua_ (-9) (h 200) : Nat) : Int)) :: st) N h := by
  intro l s0 D dA ad p e R s m args below meth c H locs cells slots mc ms ls hG hC hW hL
  have k9 := k l s0 D dA ad p e R s m args below meth c H locs cells slots mc ms ls hG hC hW hL
  rw [← T.2.2.2.2.2 i h0 h1] at k9
  refine va_bald (cx_ex hC) (cx_cb hC) (Gl_K hG (cx_al hC)) hW.1.1.1 200 1 (wl_byt hN T) rfl (pI_in h0 h1 hn) hd ?_
  rw [pI_cl h0 (by omega), toN_ h0]
  exact k9
/-- a method of the String -/
theorem e_call6 {y : MethodName} (hE : nh_ E) (hd : decode M.2.1 pc = .ok (.invokevirtual idx, 3)) (vf : VF_ M.1 idx y M' n') (hy : y.cls = RJ0) (hdd : d' + 1 ≤ d ∧ 8 + (M'.2.2.1 + 11) + 37 * d' ≤ 37 * d) (hb : bc' ≤ bc ∧ bs' ≤ bs) (hn : as.length = n') (hst : stk = as.reverse ++ (6, (q : Int)) :: st) (hcat : pcat_ st ≤ 8) (hN : 199 < N) (T : ST_ h q n f)
    (C : Cl_ y M' d' bc' bs' ((6, (q : Int)) :: as) N h (fun r N' h' => SE_ E M d (bc - bc') (bs - bs') Q (pc + 3) L (r.toList ++ st) N' h', Q.2)) (h5 : nk5_ L = true := by rfl) (h6 : nk5_ st = true := by rfl) : SE_ E M d bc bs Q pc L stk N h := by
  intro l s0 D dA ad p e R s m args below meth c H locs cells slots mc ms ls hG hC hW hL
  have hr := vx_runV (As := as.map (rv_ ad)) (rest := st.map (rv_ ad)) (b := q) (C := y.cls) (g := F0 m pc ls (stk.map (rv_ ad))) (H := H) (locs := locs) (below := below) (meth := meth) (cells := cells) (slots := slots) (e := e) ⟨cx_ex hC, cx_cb hC, cx_ml hC, cx_own hC, cx_ts hC⟩ (C l s0 D dA ad hG) ⟨cf_cb hC vf.1 vf.2.1 hdd, cx_ts hC _ vf.2.2.1, cx_ts hC _ vf.2.2.2⟩
    ⟨pc_bl, by rw [hy]; exact va_recv (Gl_K hG (cx_al hC)) hW.1.1.1 (ci := 10) (q := (RJ0, TJ0, 4)) rfl (wl_str hN T), fun U hU hW' => ⟨rfl, cx_in hC hW', by rw [hU]; exact hW.1⟩⟩ rfl (by rw [List.length_map]; exact hn) hL.1 (by subst hst; simp [rv_]) (lv_room (by rw [pcat_eq]; exact hcat)) hd (cx_f hC hb)
  exact s_back hE hr hG hC hW.2 hL hb h5 h6 (fun _ _ _ z => z) (fun _ _ _ z => z)
theorem s_new5 (hd : decode M.2.1 pc = .ok (.newarray .int, 2)) (hb : 1 ≤ bc ∧ 5 ≤ bs) (k : ∀ w : Nat, SE_ E M d (bc - 1) (bs - 5) Q (pc + 2) L ((6, (w : Int)) :: st) 202 (wy_ h w)) : SE_ E M d bc bs Q pc L ((0, 5) :: st) 201 h := by
  intro l s0 D dA ad p e R s m args below meth c H locs cells slots mc ms ls hG hC hW hL
  have f1 := cx_bc hC
  have f2 := cx_bs hC
  have f3 := cx_rc hC
  have f4 := cx_rs hC
  have hK := Gl_K hG (cx_al hC)
  refine va_newa (atype := .int) (cx_ex hC) (cx_cb hC) (cx_ts hC _ aq_int) rfl hK hW.1.1.1 hW.1.1.2 hW.2 (fun q hq => Nat.le_trans (cx_sz hC) hq) (a0 := (5, .inl fun _ => 0)) (N' := 5) (fun _ => rfl) (show ¬ Int32.ofInt 5 < 0 by decide) rfl (by decide) (by omega) (by omega) hd (fun w cA H1 hK1 hP1 hD1 hS1 => ?_)
  have ec : cA = dA 0 := by
    have a1 : s.vm.findClass ("[" ++ FieldType.int.toString) = some cA := (hK1.2 6 (cA, .int) rfl).2
    have a2 : s.vm.findClass ("[" ++ FieldType.int.toString) = some (dA 0) := (hK.2 0 (dA 0, .int) rfl).2
    exact Option.some.inj (a1.symm.trans a2)
  subst ec
  have w9 := wl_more (h' := wy_ h w) (by decide) (fun x hx => wy_ne (by omega)) (by rw [aa_, if_neg (by decide)]; exact wy_q) (by
    rw [sh_201]
    show ((.inl (dA 0, (5, .inl fun k : Nat => Int32.ofInt (wy_ h w 201 k))) : va_E)) = _
    have eg : (fun k : Nat => Int32.ofInt (wy_ h w 201 k)) = fun _ => 0 := funext fun k => by rw [wy_0 (by omega)]; rfl
    rw [eg]) hP1 hD1
  exact k w l s0 D dA ad p e R s m args below meth c H1 locs (cells + 1) (slots + 5) mc ms ls hG (Cx_use hC hb) (Wd_put (by decide) (cx_sz hC) (cx_ag hC) w9.1 w9.2 hS1) hL
theorem s_forget (k : SE_ E M d bc bs Q pc L st 201 h) : SE_ E M d bc bs Q pc L st 202 h := by
  intro l s0 D dA ad p e R s m args below meth c H locs cells slots mc ms ls hG hC hW hL
  have w9 := wl_less (by decide) hW.1.1.1 hW.1.1.2
  exact k l s0 D dA ad p e R s m args below meth c H locs cells slots mc ms ls hG hC ⟨⟨w9, hW.1.2.1, hW.1.2.2.1, fun z => absurd z (by decide)⟩, hW.2⟩ hL
theorem s_iald5 {w : Nat} {i : Int} (hd : decode M.2.1 pc = .ok (.iaload, 1)) (hw : ua_ (-9) (h 201) = w) (h0 : 0 ≤ i) (h1 : i < 5) (k : SE_ E M d bc bs Q (pc + 1) L ((0, h 201 i) :: st) 202 h) : SE_ E M d bc bs Q pc L ((0, i) :: (6, (w : Int)) :: st) 202 h := by
  intro l s0 D dA ad p e R s m args below meth c H locs cells slots mc ms ls hG hC hW hL
  refine va_iald (cx_ex hC) (cx_cb hC) (Gl_K hG (cx_al hC)) hW.1.1.1 201 0 (wl_row hw) rfl (pI_in h0 h1 (by decide)) hd ?_
  rw [pI_cl h0 (by omega), toN_ h0]
  exact k l s0 D dA ad p e R s m args below meth c H locs cells slots mc ms ls hG hC hW hL
theorem s_iast5 {w : Nat} {i v : Int} (hd : decode M.2.1 pc = .ok (.iastore, 1)) (hw : ua_ (-9) (h 201) = w) (h0 : 0 ≤ i) (h1 : i < 5) (k : SE_ E M d bc bs Q (pc + 1) L st 202 (hs_ h 201 i v)) : SE_ E M d bc bs Q pc L ((0, v) :: (0, i) :: (6, (w : Int)) :: st) 202 h := by
  intro l s0 D dA ad p e R s m args below meth c H locs cells slots mc ms ls hG hC hW hL
  refine va_iast (cx_ex hC) (cx_cb hC) (Gl_K hG (cx_al hC)) hW.1.1.1 hW.1.1.2 hW.2 201 0 (wl_row hw) rfl (pI_in h0 h1 (by decide)) hd ?_
  intro H1 locs1 hP1 hD1 hS1
  have e2 : (fun k : Nat => Int32.ofInt (hs_ h 201 i v 201 k)) = upd (fun k : Nat => Int32.ofInt (h 201 k)) (Int32.ofInt i).toNatClampNeg (Int32.ofInt v) := (upd_hs h0 (by omega)).symm
  have e1 := wl_rowset (ad := ad) (dA := dA) (v := v) hw (show -9 < i by omega)
  rw [e2] at e1
  rw [e1] at hP1 hD1
  exact k l s0 D dA ad p e R s m args below meth c H1 locs1 cells slots mc ms ls hG hC (Wd_put (by decide) (cx_sz hC) (cx_ag hC) hP1 hD1 hS1) hL
theorem ua_hs {i v : Int} (hi : -9 < i) : ua_ (-9) (hs_ h 201 i v 201) = ua_ (-9) (h 201) := ua_congr fun b => hs_ne _ (fun z => by omega)
end STRR
