/-! WHAT EACH LINE OF THE TEXT IS READ AS -/
theorem pt_sub {T : Int → Int} {a : Int} {J j : Nat} (off : Nat) (hd : ∀ k : Nat, k < (txb_ j).length → k + off < (txb_ J).length ∧ (txb_ J).getD (k + off) 0 = (txb_ j).getD k 0) (H : P_T T a J) : P_T T (a + off) j := fun k hk => by
  have h1 := hd k hk
  rw [← h1.2, ← H (k + off) h1.1, show a + (off : Int) + (k : Int) = a + ((k + off : Nat) : Int) by omega]
theorem pt_at {T : Int → Int} {a c : Int} {J : Nat} (k : Nat) (hk : k < (txb_ J).length ∧ (txb_ J).getD k 0 = c) (H : P_T T a J) : T (a + k) = c := by rw [H k hk.1, hk.2]
theorem nb_no {T : Int → Int} {n a : Int} (h : ¬ (T a = 32 ∨ T a = 10 ∨ T a = 9)) : NB_ T n a := fun q => h q.2
theorem nl_no {T : Int → Int} {n a : Int} (h : ¬ (97 ≤ T a ∧ T a ≤ 122)) : NL_ T n a := fun q => h q.2
theorem nd_no {T : Int → Int} {n a : Int} (h : ¬ (48 ≤ T a ∧ T a ≤ 57)) : ND_ T n a := fun q => h q.2
theorem pn_0 {T : Int → Int} {a v : Int} (v0 : 0 ≤ v) (H : P_N T a v) : 48 ≤ T a ∧ T a ≤ 57 := by
  have h := H 0 (Int.le_refl _) (by have := nd_bd' v; omega)
  rw [Int.add_zero] at h
  rw [h]
  have e : dt_ v (nd_ v - 1 - 0) = v / 10 ^ (nd_ v - 1 - 0).toNat % 10 := rfl
  rw [e]
  omega
/-- a keyword with a blank behind it: word j of the lines, its length l -/
theorem kw_b {T : Int → Int} {n a : Int} {J j : Nat} (l : Nat) (hj : j < 23) (hl : (txb_ j).length = l) (hd : ∀ k : Nat, k < (txb_ j).length → k + 0 < (txb_ J).length ∧ (txb_ J).getD (k + 0) 0 = (txb_ j).getD k 0) (hs : l < (txb_ J).length ∧ (txb_ J).getD l 0 = 32) (H : P_T T a J) (hn : a + l < n) (h2 : NB_ T n (a + l + 1)) :
    nb_ T n a = a ∧ wn_ T n a = a + l ∧ wi_ T (nb_ T n a) (wl__ T n a) = j ∧ okW T n a j ∧ nb_ T n (a + l) = a + l + 1 := by
  subst hl
  have h0 := pt_sub 0 hd H
  rw [show a + ((0 : Nat) : Int) = a by omega] at h0
  have hp : ∀ i : Nat, i < 23 → 0 < (txb_ i).length ∧ 97 ≤ (txb_ i).getD 0 0 := by decide +kernel
  have e0 := h0 0 (hp j hj).1
  have ha : nb_ T n a = a := nb_0 (nb_no (by
    have := (hp j hj).2
    rw [show a + ((0 : Nat) : Int) = a by omega] at e0
    omega))
  have eb := pt_at _ hs H
  have w := ok_w ha hj (by omega) h0 (nl_no (by rw [eb]; omega))
  exact ⟨ha, w.1, w.2.2.2, w.2.2.1, nb_1 hn eb h2⟩
theorem yv_k {P t G K K' : Int} {y : PH} (h : K ≤ K') (V : YV_ P t G K y) : YV_ P t G K' y := ⟨V.1, V.2.1, V.2.2.1, V.2.2.2.1, V.2.2.2.2.1, fun g a b => by have := V.2.2.2.2.2 g a b; omega⟩
/-- facts told don't touch names and gifts -/
theorem yv_put {P t G K : Int} {y : PH} {F : Int → Int} (V : YV_ P t G K y) : YV_ P t G K (zput y F) := by
  unfold YV_
  have e : ∀ x : Int, ¬ x = 1 → zput y F x = y x := fun x h => zput_ne h
  rw [e 0 (by decide), e 11 (by decide), e 10 (by decide), e 7 (by decide)]
  refine ⟨V.1, V.2.1, V.2.2.1, fun i a b => ?_, fun i a b => ?_, V.2.2.2.2.2⟩
  · rw [e (30 + i) (by omega)]
    exact V.2.2.2.1 i a b
  · rw [e (20 + i) (by omega)]
    exact V.2.2.2.2.1 i a b
theorem yv_np {P t G K q c s : Int} {y : PH} {T : Int → Int} (V : YV_ P t G K y) (P0 : 0 ≤ P) (P1 : P < 12) (t1 : t ≤ 8) (hT : T s = 97 + P) : YV_ (P + 1) t G K (ypa (ynp y T s 1) (y 0 1) q c) ∧ ypa (ynp y T s 1) (y 0 1) q c 1 = y 1 := by
  obtain ⟨v1, v2, v3, v4, v5, v6⟩ := V
  have e : ∀ x : Int, ¬ x = 2 → ¬ x = 3 → ypa (ynp y T s 1) (y 0 1) q c x = ynp y T s 1 x := fun x a b => by
    show (if x = 2 then fu_ (ynp y T s 1 2) (y 0 1) q else if x = 3 then fu_ (ynp y T s 1 3) (y 0 1) c else ynp y T s 1 x) = _
    rw [if_neg a, if_neg b]
  have f : ∀ x : Int, ¬ x = 0 → ¬ x = 11 → ¬ x = 30 + y 0 1 → ynp y T s 1 x = y x := fun x a b d => by
    unfold ynp
    rw [if_neg a, if_neg b, if_neg d]
  have f0 : ynp y T s 1 0 = fu_ (y 0) 1 (y 0 1 + 1) := if_pos rfl
  have f11 : ynp y T s 1 11 = fu_ (y 11) (y 0 1) 1 := by unfold ynp; rw [if_neg (by decide), if_pos rfl]
  have f30 : ynp y T s 1 (30 + P) = fun k => T (s + k) := by unfold ynp; rw [if_neg (by omega), if_neg (by omega), if_pos (by omega)]
  refine ⟨?_, by rw [e 1 (by decide) (by decide), f 1 (by decide) (by decide) (by omega)]⟩
  unfold YV_
  rw [e 0 (by decide) (by decide), e 11 (by decide) (by decide), e 10 (by decide) (by decide), e 7 (by decide) (by decide), f0, f11, f 10 (by decide) (by decide) (by omega), f 7 (by decide) (by decide) (by omega), fu_eq, fu_ne (by decide), fu_ne (by decide)]
  refine ⟨by omega, v2, v3, fun i a b => ?_, fun i a b => ?_, v6⟩
  · rw [e (30 + i) (by omega) (by omega)]
    by_cases d : i = P
    · rw [d, f30, ← v1, fu_eq]
      refine ⟨rfl, ?_⟩
      show T (s + 0) = _
      rw [show s + 0 = s by omega, v1]
      exact hT
    · rw [f (30 + i) (by omega) (by omega) (by omega), fu_ne (by omega)]
      exact v4 i a (by omega)
  · rw [e (20 + i) (by omega) (by omega), f (20 + i) (by omega) (by omega) (by omega)]
    exact v5 i a b
theorem yv_nt {P t G K s : Int} {y : PH} {T : Int → Int} {F : Int → Int} (V : YV_ P t G K y) (P1 : P ≤ 12) (t0 : 0 ≤ t) (t1 : t < 8) (hT : T s = 116 + t) : YV_ P (t + 1) G K (zput (ynt y T s 1) F) := by
  refine yv_put ?_
  obtain ⟨v1, v2, v3, v4, v5, v6⟩ := V
  have f : ∀ x : Int, ¬ x = 0 → ¬ x = 10 → ¬ x = 20 + y 0 0 → ynt y T s 1 x = y x := fun x a b d => by
    unfold ynt
    rw [if_neg a, if_neg b, if_neg d]
  have f0 : ynt y T s 1 0 = fu_ (y 0) 0 (y 0 0 + 1) := if_pos rfl
  have f10 : ynt y T s 1 10 = fu_ (y 10) (y 0 0) 1 := by unfold ynt; rw [if_neg (by decide), if_pos rfl]
  have f20 : ynt y T s 1 (20 + t) = fun k => T (s + k) := by unfold ynt; rw [if_neg (by omega), if_neg (by omega), if_pos (by omega)]
  unfold YV_
  rw [f0, f10, f 11 (by decide) (by decide) (by omega), f 7 (by decide) (by decide) (by omega), fu_eq, fu_ne (by decide), fu_ne (by decide)]
  refine ⟨v1, by omega, v3, fun i a b => ?_, fun i a b => ?_, v6⟩
  · rw [f (30 + i) (by omega) (by omega) (by omega)]
    exact v4 i a b
  · by_cases d : i = t
    · rw [d, f20, ← v2, fu_eq]
      refine ⟨rfl, ?_⟩
      show T (s + 0) = _
      rw [show s + 0 = s by omega, v2]
      exact hT
    · rw [f (20 + i) (by omega) (by omega) (by omega), fu_ne (by omega)]
      exact v5 i a (by omega)
theorem yv_gi {P t G K k p th m r : Int} {y : PH} (V : YV_ P t G K y) (hk : th < K) : YV_ P t (G + 1) K (ygi y k p th m r) ∧ ygi y k p th m r 1 = y 1 := by
  obtain ⟨v1, v2, v3, v4, v5, v6⟩ := V
  have f : ∀ x : Int, ¬ x = 0 → ¬ x = 5 → ¬ x = 6 → ¬ x = 7 → ¬ x = 8 → ¬ x = 9 → ygi y k p th m r x = y x := fun x a b c d e g => by
    unfold ygi
    rw [if_neg a, if_neg b, if_neg c, if_neg d, if_neg e, if_neg g]
  have f0 : ygi y k p th m r 0 = fu_ (y 0) 2 (y 0 2 + 1) := if_pos rfl
  have f7 : ygi y k p th m r 7 = fu_ (y 7) (y 0 2) th := by unfold ygi; rw [if_neg (by decide), if_neg (by decide), if_neg (by decide), if_pos rfl]
  refine ⟨?_, f 1 (by decide) (by decide) (by decide) (by decide) (by decide) (by decide)⟩
  unfold YV_
  rw [f0, f7, f 11 (by decide) (by decide) (by decide) (by decide) (by decide) (by decide), f 10 (by decide) (by decide) (by decide) (by decide) (by decide) (by decide), fu_eq, fu_ne (by decide), fu_ne (by decide)]
  refine ⟨v1, v2, by omega, fun i a b => ?_, fun i a b => ?_, fun g a b => ?_⟩
  · rw [f (30 + i) (by omega) (by omega) (by omega) (by omega) (by omega) (by omega)]
    exact v4 i a b
  · rw [f (20 + i) (by omega) (by omega) (by omega) (by omega) (by omega) (by omega)]
    exact v5 i a b
  · by_cases d : g = y 0 2
    · rw [d, fu_eq]
      exact hk
    · rw [fu_ne d]
      exact v6 g a (by omega)
theorem yh_put {y : PH} {k v : Int} (H : YH_ y) (hk : k < 8 ∨ 56 ≤ k) : YH_ (zput y (fu_ (y 1) k v)) := by
  unfold YH_
  rw [zput_1]
  refine ⟨fun i a b => ?_, ?_⟩
  · rw [fu_ne (by omega)]
    exact H.1 i a b
  · rw [fu_ne (by omega)]
    exact H.2
theorem yh_1 {y y' : PH} (e : y' 1 = y 1) (H : YH_ y) : YH_ y' := by
  unfold YH_
  rw [e]
  exact H
/-- the text T of n letters is read from 0 as far as u goes, in j lines, and what is told is as V says -/
def RT_ (j : Nat) (u : UT) (V : PH → Prop) : Prop := 0 ≤ u.1 ∧ ∀ (T : Int → Int) (n : Int), EX_ T n u → NB_ T n u.1 → ∃ y : PH, V y ∧ ∀ m : Nat, pRead T n (m + j) (nb_ T n 0) yz_ = pRead T n m u.1 y
theorem rt_0 {f : Int → Int} {V : PH → Prop} (h : V yz_) : RT_ 0 (0, f) V := ⟨Int.le_refl _, fun T n _ q => ⟨yz_, h, fun m => by
  have q : NB_ T n 0 := q
  rw [nb_0 q]
  rfl⟩⟩
/-- a line more -/
theorem rt_ln {j : Nat} {u u' : UT} {V V' : PH → Prop} (R : RT_ j u V) (h0 : u.1 < u'.1) (hx : ∀ (T : Int → Int) (n : Int), EX_ T n u' → EX_ T n u ∧ NB_ T n u.1) (hl : ∀ (T : Int → Int) (n : Int) (y : PH), EX_ T n u' → NB_ T n u'.1 → V y → ∃ y' : PH, V' y' ∧ pLine T n u.1 y = (-1, u'.1, y')) : RT_ (j + 1) u' V' := by
  refine ⟨by have := R.1; omega, fun T n E hb => ?_⟩
  have q := hx T n E
  obtain ⟨y, v, e⟩ := R.2 T n q.1 q.2
  obtain ⟨y', v', e'⟩ := hl T n y E hb v
  refine ⟨y', v', fun m => ?_⟩
  rw [show m + (j + 1) = (m + 1) + j by omega, e (m + 1), pRead, iC_f (fun z => z (by have := E.1.2; omega)), e', iC_f (fun z => z rfl)]
theorem rt_v {j : Nat} {u : UT} {V V' : PH → Prop} (R : RT_ j u V) (h : ∀ y, V y → V' y) : RT_ j u V' := ⟨R.1, fun T n E q => by
  obtain ⟨y, v, e⟩ := R.2 T n E q
  exact ⟨y, h y v, e⟩⟩

theorem pw_b0 {T : Int → Int} {n s a : Int} {y : PH} : pBody 0 T n s a y = pThing T n s a y := by
  unfold pBody
  rw [iC_t rfl]
theorem pw_b1 {T : Int → Int} {n s a : Int} {y : PH} : pBody 1 T n s a y = pTold 0 99999 T n a y := by
  unfold pBody
  rw [iC_f (by decide), iC_t rfl]
theorem pw_b2 {T : Int → Int} {n s a : Int} {y : PH} : pBody 2 T n s a y = pTold 1 99999 T n a y := by
  unfold pBody
  rw [iC_f (by decide), iC_f (by decide), iC_t rfl]
theorem pw_b3 {T : Int → Int} {n s a : Int} {y : PH} : pBody 3 T n s a y = pPerson 1 T n s a y := by
  unfold pBody
  rw [iC_f (by decide), iC_f (by decide), iC_f (by decide), iC_t rfl]
theorem pw_b4 {T : Int → Int} {n s a : Int} {y : PH} : pBody 4 T n s a y = pPerson 0 T n s a y := by
  unfold pBody
  rw [iC_f (by decide), iC_f (by decide), iC_f (by decide), iC_f (by decide), iC_t rfl]
theorem pw_b5 {T : Int → Int} {n s a : Int} {y : PH} : pBody 5 T n s a y = pIssue T n s a y := by
  unfold pBody
  rw [iC_f (by decide), iC_f (by decide), iC_f (by decide), iC_f (by decide), iC_f (by decide), iC_t rfl]
theorem pw_b7 {T : Int → Int} {n s a : Int} {y : PH} : pBody 7 T n s a y = pGift 0 T n s a y := by
  unfold pBody
  rw [iC_f (by decide), iC_f (by decide), iC_f (by decide), iC_f (by decide), iC_f (by decide), iC_f (by decide), iC_t rfl]
theorem pw_b9 {T : Int → Int} {n s a : Int} {y : PH} : pBody 9 T n s a y = pGift 1 T n s a y := by
  unfold pBody
  rw [iC_f (by decide), iC_f (by decide), iC_f (by decide), iC_f (by decide), iC_f (by decide), iC_f (by decide), iC_f (by decide), iC_t rfl]
theorem pw_b11 {T : Int → Int} {n s a : Int} {y : PH} : pBody 11 T n s a y = pGift 2 T n s a y := by
  unfold pBody
  rw [iC_f (by decide), iC_f (by decide), iC_f (by decide), iC_f (by decide), iC_f (by decide), iC_f (by decide), iC_f (by decide), iC_f (by decide), iC_t rfl]
theorem pw_b12 {T : Int → Int} {n s a : Int} {y : PH} : pBody 12 T n s a y = pGift 3 T n s a y := by
  unfold pBody
  rw [iC_f (by decide), iC_f (by decide), iC_f (by decide), iC_f (by decide), iC_f (by decide), iC_f (by decide), iC_f (by decide), iC_f (by decide), iC_f (by decide), iC_t rfl]
theorem pw_b16 {T : Int → Int} {n s a : Int} {y : PH} : pBody 16 T n s a y = pLost T n a y := by
  unfold pBody
  rw [iC_f (by decide), iC_f (by decide), iC_f (by decide), iC_f (by decide), iC_f (by decide), iC_f (by decide), iC_f (by decide), iC_f (by decide), iC_f (by decide), iC_f (by decide), iC_f (by decide), iC_f (by decide), iC_t rfl]
theorem pw_b18 {T : Int → Int} {n s a : Int} {y : PH} : pBody 18 T n s a y = pDead T n a y := by
  unfold pBody
  rw [iC_f (by decide), iC_f (by decide), iC_f (by decide), iC_f (by decide), iC_f (by decide), iC_f (by decide), iC_f (by decide), iC_f (by decide), iC_f (by decide), iC_f (by decide), iC_f (by decide), iC_f (by decide), iC_f (by decide), iC_t rfl]
theorem pw_b19 {T : Int → Int} {n s a : Int} {y : PH} : pBody 19 T n s a y = pTold 2 240 T n a y := by
  unfold pBody
  rw [iC_f (by decide), iC_f (by decide), iC_f (by decide), iC_f (by decide), iC_f (by decide), iC_f (by decide), iC_f (by decide), iC_f (by decide), iC_f (by decide), iC_f (by decide), iC_f (by decide), iC_f (by decide), iC_f (by decide), iC_f (by decide), iC_t rfl]
theorem pw_b21 {T : Int → Int} {n s a : Int} {y : PH} : pBody 21 T n s a y = pRule T n a y := by
  unfold pBody
  rw [iC_f (by decide), iC_f (by decide), iC_f (by decide), iC_f (by decide), iC_f (by decide), iC_f (by decide), iC_f (by decide), iC_f (by decide), iC_f (by decide), iC_f (by decide), iC_f (by decide), iC_f (by decide), iC_f (by decide), iC_f (by decide), iC_f (by decide), iC_f (by decide), iC_t rfl]
/-- a line whose word is j and whose body ends at b, where ';' stands -/
theorem pl_j {T : Int → Int} {n a e b : Int} {y y' : PH} {j : Nat} (h1 : nb_ T n a = a) (h2 : wn_ T n a = e) (h3 : wi_ T (nb_ T n a) (wl__ T n a) = j) (h4 : a < e) (h5 : pBody j T n a e y = (-1, b, y')) (h6 : b < n) (h7 : T b = 59) (h8 : NB_ T n (b + 1)) : pLine T n a y = (-1, b + 1, y') := by
  have q := ok_e h6 h7 h8
  unfold pLine
  rw [iC_f (fun z => z (by rw [h1, h2]; exact h4)), h3, h1, h2, h5]
  unfold pEnd
  rw [iC_f (fun z => z rfl), iC_f (fun z => z q.2.1), q.2.2]
