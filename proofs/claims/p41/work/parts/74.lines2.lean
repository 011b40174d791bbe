/-! THE LINES OF THE LAW'S TEXT -/
theorem tx1_24 {u : UT} : (tx_ u 24).1 = u.1 + 7 := by
  have e : ((txb_ 24).length : Int) = 7 := by decide +kernel
  show u.1 + ((txb_ 24).length : Int) = _
  rw [e]
theorem tx1_25 {u : UT} : (tx_ u 25).1 = u.1 + 1 := by
  have e : ((txb_ 25).length : Int) = 1 := by decide +kernel
  show u.1 + ((txb_ 25).length : Int) = _
  rw [e]
theorem tx1_26 {u : UT} : (tx_ u 26).1 = u.1 + 6 := by
  have e : ((txb_ 26).length : Int) = 6 := by decide +kernel
  show u.1 + ((txb_ 26).length : Int) = _
  rw [e]
theorem tx1_27 {u : UT} : (tx_ u 27).1 = u.1 + 4 := by
  have e : ((txb_ 27).length : Int) = 4 := by decide +kernel
  show u.1 + ((txb_ 27).length : Int) = _
  rw [e]
theorem tx1_28 {u : UT} : (tx_ u 28).1 = u.1 + 6 := by
  have e : ((txb_ 28).length : Int) = 6 := by decide +kernel
  show u.1 + ((txb_ 28).length : Int) = _
  rw [e]
theorem tx1_29 {u : UT} : (tx_ u 29).1 = u.1 + 6 := by
  have e : ((txb_ 29).length : Int) = 6 := by decide +kernel
  show u.1 + ((txb_ 29).length : Int) = _
  rw [e]
theorem tx1_30 {u : UT} : (tx_ u 30).1 = u.1 + 1 := by
  have e : ((txb_ 30).length : Int) = 1 := by decide +kernel
  show u.1 + ((txb_ 30).length : Int) = _
  rw [e]
theorem tx1_31 {u : UT} : (tx_ u 31).1 = u.1 + 5 := by
  have e : ((txb_ 31).length : Int) = 5 := by decide +kernel
  show u.1 + ((txb_ 31).length : Int) = _
  rw [e]
theorem tx1_32 {u : UT} : (tx_ u 32).1 = u.1 + 5 := by
  have e : ((txb_ 32).length : Int) = 5 := by decide +kernel
  show u.1 + ((txb_ 32).length : Int) = _
  rw [e]
theorem tx1_33 {u : UT} : (tx_ u 33).1 = u.1 + 5 := by
  have e : ((txb_ 33).length : Int) = 5 := by decide +kernel
  show u.1 + ((txb_ 33).length : Int) = _
  rw [e]
theorem tx1_34 {u : UT} : (tx_ u 34).1 = u.1 + 4 := by
  have e : ((txb_ 34).length : Int) = 4 := by decide +kernel
  show u.1 + ((txb_ 34).length : Int) = _
  rw [e]
theorem tx1_35 {u : UT} : (tx_ u 35).1 = u.1 + 5 := by
  have e : ((txb_ 35).length : Int) = 5 := by decide +kernel
  show u.1 + ((txb_ 35).length : Int) = _
  rw [e]
theorem tx1_36 {u : UT} : (tx_ u 36).1 = u.1 + 6 := by
  have e : ((txb_ 36).length : Int) = 6 := by decide +kernel
  show u.1 + ((txb_ 36).length : Int) = _
  rw [e]
theorem tx1_37 {u : UT} : (tx_ u 37).1 = u.1 + 4 := by
  have e : ((txb_ 37).length : Int) = 4 := by decide +kernel
  show u.1 + ((txb_ 37).length : Int) = _
  rw [e]
theorem tx1_38 {u : UT} : (tx_ u 38).1 = u.1 + 8 := by
  have e : ((txb_ 38).length : Int) = 8 := by decide +kernel
  show u.1 + ((txb_ 38).length : Int) = _
  rw [e]
theorem tx1_39 {u : UT} : (tx_ u 39).1 = u.1 + 5 := by
  have e : ((txb_ 39).length : Int) = 5 := by decide +kernel
  show u.1 + ((txb_ 39).length : Int) = _
  rw [e]
theorem tx1_40 {u : UT} : (tx_ u 40).1 = u.1 + 7 := by
  have e : ((txb_ 40).length : Int) = 7 := by decide +kernel
  show u.1 + ((txb_ 40).length : Int) = _
  rw [e]
theorem tx1_41 {u : UT} : (tx_ u 41).1 = u.1 + 15 := by
  have e : ((txb_ 41).length : Int) = 15 := by decide +kernel
  show u.1 + ((txb_ 41).length : Int) = _
  rw [e]
theorem tx1_42 {u : UT} : (tx_ u 42).1 = u.1 + 7 := by
  have e : ((txb_ 42).length : Int) = 7 := by decide +kernel
  show u.1 + ((txb_ 42).length : Int) = _
  rw [e]
theorem tx1_43 {u : UT} : (tx_ u 43).1 = u.1 + 11 := by
  have e : ((txb_ 43).length : Int) = 11 := by decide +kernel
  show u.1 + ((txb_ 43).length : Int) = _
  rw [e]
theorem tc1_ {u : UT} {c : Int} : (tc_ u c).1 = u.1 + 1 := rfl
theorem tn1_ {u : UT} {v : Int} : (tn_ u v).1 = u.1 + nd_ v := rfl
theorem pt_25 {T : Int → Int} {a : Int} (H : P_T T a 25) : T a = 59 := by
  have := pt_at (c := 59) 0 (by decide +kernel) H
  rwa [show a + ((0 : Nat) : Int) = a by omega] at this
theorem pt_30 {T : Int → Int} {a : Int} (H : P_T T a 30) : T a = 32 := by
  have := pt_at (c := 32) 0 (by decide +kernel) H
  rwa [show a + ((0 : Nat) : Int) = a by omega] at this
/-- a keyword ahead of a blank: J its text, j the word, l its length, p where the blank ends -/
theorem kw_p {T : Int → Int} {n a p : Int} {J j : Nat} (l : Nat) (hp : p = a + l + 1) (hj : j < 23) (hl : (txb_ j).length = l) (hd : ∀ k : Nat, k < (txb_ j).length → k + 0 < (txb_ J).length ∧ (txb_ J).getD (k + 0) 0 = (txb_ j).getD k 0) (hs : l < (txb_ J).length ∧ (txb_ J).getD l 0 = 32) (H : P_T T a J) (hn : p ≤ n) (h2 : ¬ (T p = 32 ∨ T p = 10 ∨ T p = 9)) :
    nb_ T n a = a ∧ wn_ T n a = a + l ∧ wi_ T (nb_ T n a) (wl__ T n a) = j ∧ nb_ T n (a + l) = p := by
  subst hp
  have k := kw_b (n := n) l hj hl hd hs H (by omega) (nb_no h2)
  exact ⟨k.1, k.2.1, k.2.2.1, k.2.2.2.2⟩
/-- a word between blanks: J its text, j the word, l its length, behind it at p no blank -/
theorem mid_w {T : Int → Int} {n a p : Int} {J j : Nat} (l : Nat) (hp : p = a + 1 + l + 1) (hj : j < 23) (hl : (txb_ j).length = l) (h0 : 0 < (txb_ J).length ∧ (txb_ J).getD 0 0 = 32) (hd : ∀ k : Nat, k < (txb_ j).length → k + 1 < (txb_ J).length ∧ (txb_ J).getD (k + 1) 0 = (txb_ j).getD k 0) (hs : 1 + l < (txb_ J).length ∧ (txb_ J).getD (1 + l) 0 = 32) (H : P_T T a J) (hn : p ≤ n) (h2 : ¬ (T p = 32 ∨ T p = 10 ∨ T p = 9)) :
    nb_ T n a = a + 1 ∧ wn_ T n a = a + 1 + l ∧ okW T n a j ∧ nb_ T n (a + 1 + l) = p := by
  subst hp
  subst hl
  have hw : ∀ i : Nat, i < 23 → 0 < (txb_ i).length ∧ 97 ≤ (txb_ i).getD 0 0 := by decide +kernel
  have e0 : T a = 32 := by
    have := pt_at (c := 32) 0 h0 H
    rwa [show a + ((0 : Nat) : Int) = a by omega] at this
  have hw1 : P_T T (a + ((1 : Nat) : Int)) j := pt_sub 1 hd H
  have hw1 : P_T T (a + 1) j := hw1
  have e1 := hw1 0 (hw j hj).1
  rw [show a + 1 + ((0 : Nat) : Int) = a + 1 by omega] at e1
  have n1 : nb_ T n a = a + 1 := nb_1 (by omega) e0 (nb_no (by have := (hw j hj).2; omega))
  have eb : T (a + 1 + ((txb_ j).length : Int)) = 32 := by
    have := pt_at (c := 32) _ hs H
    rwa [show a + ((1 + (txb_ j).length : Nat) : Int) = a + 1 + ((txb_ j).length : Int) by omega] at this
  have w := ok_w n1 hj (by omega) hw1 (nl_no (by rw [eb]; omega))
  exact ⟨n1, w.1, w.2.2.1, nb_1 (by omega) eb (nb_no h2)⟩
theorem yh_f {y y' : PH} {k v : Int} (H : YH_ y) (hk : k < 8 ∨ 56 ≤ k) (e : y' 1 = fu_ (y 1) k v) : YH_ y' := by
  have h := yh_put (v := v) H hk
  unfold YH_ at h ⊢
  rw [zput_1] at h
  rw [e]
  exact h
/-- what holds all through -/
def VV_ (P t G K : Int) (y : PH) : Prop := YV_ P t G K y ∧ YH_ y
theorem pg_k {k : Int} {T : Int → Int} {n s a b1 b2 b3 b4 b5 q : Int} {f1 f2 f5 y : PH} (hy : y 0 2 < 12) (h1 : pgT k T n a y = (-1, b1, f1)) (h2 : pgM k T n b1 y = (-1, b2, f2)) (h3 : okW T n b2 8) (h4 : wn_ T n b2 = b3) (h5 : tP y T n b3 = q) (h6 : 0 ≤ q) (h7 : wn_ T n b3 = b4) (h8 : pgR k T n b4 y = (-1, b5, f5)) : pGift k T n s a y = (-1, b5, ygi y k q (f1 0 0) (f2 0 0) (f5 0 0)) := by
  unfold pGift
  rw [iC_f (fun z => z hy), h1]
  dsimp only
  rw [iC_f (fun z => z rfl), h2]
  dsimp only
  rw [iC_f (fun z => z rfl), iC_f (fun z => z h3), h4, h5, iC_f (by omega), h7, h8]
  dsimp only
  rw [iC_f (fun z => z rfl)]
theorem ll_child {T : Int → Int} {n a p1 p2 p3 P t G K : Int} {y : PH} (V : VV_ P t G K y) (P0 : 0 ≤ P) (P1 : P < 12) (t1 : t ≤ 8) (e1 : p1 = a + 5 + 1) (e2 : p2 = p1 + 1) (e3 : p3 = p2 + 1) (h1 : P_T T a 28) (h2 : T p1 = 97 + P) (h3 : T p2 = 59) (hn : p3 ≤ n) (hb : NB_ T n p3) : ∃ y' : PH, VV_ (P + 1) t G K y' ∧ pLine T n a y = (-1, p3, y') := by
  have k := kw_p (n := n) (p := p1) (j := 3) 5 e1 (by decide) (by decide +kernel) (by decide +kernel) (by decide +kernel) h1 (by omega) (by omega)
  have w := ok_u (n := n) k.2.2.2 (by omega) (by omega) (nl_no (by rw [← e2, h3]; omega))
  rw [← e2] at w
  have hP : tP y T n (a + (5 : Nat)) = -1 := by
    unfold tP
    rw [k.2.2.2, w.2.1]
    exact fp_new V.1 h2
  have v := yv_np (q := -1) (c := 1) V.1 P0 P1 t1 h2
  refine ⟨_, ⟨v.1, yh_1 v.2 V.2⟩, ?_⟩
  rw [e3]
  refine pl_j k.1 k.2.1 k.2.2.1 (by omega) ?_ (by omega) h3 (by rw [← e3]; exact hb)
  rw [pw_b3]
  unfold pPerson
  rw [iC_f (fun z => z (by rw [V.1.1]; exact P1)), iC_f (fun z => z ⟨w.2.2, hP⟩), w.1, k.2.2.2, w.2.1]
theorem ll_friend {T : Int → Int} {n a p1 p2 p3 P t G K : Int} {y : PH} (V : VV_ P t G K y) (P0 : 0 ≤ P) (P1 : P < 12) (t1 : t ≤ 8) (e1 : p1 = a + 6 + 1) (e2 : p2 = p1 + 1) (e3 : p3 = p2 + 1) (h1 : P_T T a 24) (h2 : T p1 = 97 + P) (h3 : T p2 = 59) (hn : p3 ≤ n) (hb : NB_ T n p3) : ∃ y' : PH, VV_ (P + 1) t G K y' ∧ pLine T n a y = (-1, p3, y') := by
  have k := kw_p (n := n) (p := p1) (j := 4) 6 e1 (by decide) (by decide +kernel) (by decide +kernel) (by decide +kernel) h1 (by omega) (by omega)
  have w := ok_u (n := n) k.2.2.2 (by omega) (by omega) (nl_no (by rw [← e2, h3]; omega))
  rw [← e2] at w
  have hP : tP y T n (a + (6 : Nat)) = -1 := by
    unfold tP
    rw [k.2.2.2, w.2.1]
    exact fp_new V.1 h2
  have v := yv_np (q := -1) (c := 0) V.1 P0 P1 t1 h2
  refine ⟨_, ⟨v.1, yh_1 v.2 V.2⟩, ?_⟩
  rw [e3]
  refine pl_j k.1 k.2.1 k.2.2.1 (by omega) ?_ (by omega) h3 (by rw [← e3]; exact hb)
  rw [pw_b4]
  unfold pPerson
  rw [iC_f (fun z => z (by rw [V.1.1]; exact P1)), iC_f (fun z => z ⟨w.2.2, hP⟩), w.1, k.2.2.2, w.2.1]
theorem ll_issue {T : Int → Int} {n a p1 p2 p3 p4 p5 P q t G K : Int} {y : PH} (V : VV_ P t G K y) (P0 : 0 ≤ P) (P1 : P < 12) (t1 : t ≤ 8) (q0 : 0 ≤ q) (q1 : q < P) (e1 : p1 = a + 5 + 1) (e2 : p2 = p1 + 1) (e3 : p3 = p2 + 4) (e4 : p4 = p3 + 1) (e5 : p5 = p4 + 1) (h1 : P_T T a 26) (h2 : T p1 = 97 + P) (h3 : P_T T p2 27) (h4 : T p3 = 97 + q) (h5 : T p4 = 59) (hn : p5 ≤ n) (hb : NB_ T n p5) : ∃ y' : PH, VV_ (P + 1) t G K y' ∧ pLine T n a y = (-1, p5, y') := by
  have k := kw_p (n := n) (p := p1) (j := 5) 5 e1 (by decide) (by decide +kernel) (by decide +kernel) (by decide +kernel) h1 (by omega) (by omega)
  have b2 : T p2 = 32 := by
    have := pt_at (c := 32) 0 (by decide +kernel) h3
    rwa [show p2 + ((0 : Nat) : Int) = p2 by omega] at this
  have w := ok_u (n := n) k.2.2.2 (by omega) (by omega) (nl_no (by rw [← e2, b2]; omega))
  rw [← e2] at w
  have hP : tP y T n (a + (5 : Nat)) = -1 := by
    unfold tP
    rw [k.2.2.2, w.2.1]
    exact fp_new V.1 h2
  have m := mid_w (n := n) (p := p3) (j := 6) 2 (by omega) (by decide) (by decide +kernel) (by decide +kernel) (by decide +kernel) (by decide +kernel) h3 (by omega) (by omega)
  have u := ok_u (n := n) m.2.2.2 (by omega) (by omega) (nl_no (by rw [← e4, h5]; omega))
  rw [← e4] at u
  have hQ : tP y T n (p2 + 1 + (2 : Nat)) = q := by
    unfold tP
    rw [m.2.2.2, u.2.1]
    exact fp_old V.1 q0 q1 h4
  have v := yv_np (q := q) (c := 0) V.1 P0 P1 t1 h2
  refine ⟨_, ⟨v.1, yh_1 v.2 V.2⟩, ?_⟩
  rw [e5]
  refine pl_j k.1 k.2.1 k.2.2.1 (by omega) ?_ (by omega) h5 (by rw [← e5]; exact hb)
  rw [pw_b5]
  unfold pIssue
  rw [iC_f (fun z => z (by rw [V.1.1]; exact P1)), iC_f (fun z => z ⟨w.2.2, hP⟩), w.1, iC_f (fun z => z m.2.2.1), m.2.1, hQ, iC_f (by omega), u.1, k.2.2.2, w.2.1]
theorem ll_thing {T : Int → Int} {n a p1 p2 p3 p4 p5 P t G K x : Int} {y : PH} (V : VV_ P t G K y) (P1 : P ≤ 12) (t0 : 0 ≤ t) (t1 : t < 7) (x0 : 1 ≤ x) (x1 : x < 1000) (e1 : p1 = a + 5 + 1) (e2 : p2 = p1 + 1) (e3 : p3 = p2 + 1) (e4 : p4 = p3 + nd_ x) (e5 : p5 = p4 + 1) (h1 : P_T T a 29) (h2 : T p1 = 116 + t) (h3 : T p2 = 32) (h4 : P_N T p3 x) (h5 : T p4 = 59) (hn : p5 ≤ n) (hb : NB_ T n p5) : ∃ y' : PH, VV_ P (t + 1) G K y' ∧ pLine T n a y = (-1, p5, y') := by
  have hd := nd_bd' x
  have k := kw_p (n := n) (p := p1) (j := 0) 5 e1 (by decide) (by decide +kernel) (by decide +kernel) (by decide +kernel) h1 (by omega) (by omega)
  have w := ok_u (n := n) k.2.2.2 (by omega) (by omega) (nl_no (by rw [← e2, h3]; omega))
  rw [← e2] at w
  have hT : tT y T n (a + (5 : Nat)) = -1 := by
    unfold tT
    rw [k.2.2.2, w.2.1]
    exact ft_new V.1 h2
  have f0 := pn_0 (by omega) h4
  have n2 : nb_ T n p2 = p3 := by rw [e3]; exact nb_1 (by omega) h3 (nb_no (by rw [← e3]; omega))
  have N := ok_n (n := n) (lo := 1) (hi := 9999) n2 (by omega) x1 (by omega) h4 (nd_no (by rw [← e4, h5]; omega)) x0 (by omega)
  rw [← e4] at N
  have v := yv_nt (F := fu_ (y 1) (y 0 0) x) V.1 P1 t0 (by omega) h2
  refine ⟨_, ⟨v, yh_f (k := y 0 0) (v := x) V.2 (Or.inl (by rw [V.1.2.1]; omega)) (zput_1 _ _)⟩, ?_⟩
  rw [e5]
  refine pl_j k.1 k.2.1 k.2.2.1 (by omega) ?_ (by omega) h5 (by rw [← e5]; exact hb)
  rw [pw_b0]
  unfold pThing
  rw [iC_f (fun z => z (by rw [V.1.2.1]; omega)), iC_f (fun z => z ⟨w.2.2, hT⟩), w.1, iC_f (fun z => z N.2.2), N.1, N.2.1, k.2.2.2, w.2.1]
theorem ll_cash {T : Int → Int} {n a p1 p2 p3 x : Int} {y : PH} (x0 : 0 ≤ x) (x1 : x < 1000) (x2 : x ≤ 99999) (e1 : p1 = a + 4 + 1) (e2 : p2 = p1 + nd_ x) (e3 : p3 = p2 + 1) (h1 : P_T T a 31) (h2 : P_N T p1 x) (h3 : T p2 = 59) (hn : p3 ≤ n) (hb : NB_ T n p3) : pLine T n a y = (-1, p3, zput y (fu_ (y 1) (56 + 0) x)) := by
  have hd := nd_bd' x
  have f0 := pn_0 x0 h2
  have k := kw_p (n := n) (p := p1) (j := 1) 4 e1 (by decide) (by decide +kernel) (by decide +kernel) (by decide +kernel) h1 (by omega) (by omega)
  have N := ok_n (n := n) (lo := 0) (hi := 99999) k.2.2.2 x0 x1 (by omega) h2 (nd_no (by rw [← e2, h3]; omega)) x0 x2
  rw [← e2] at N
  rw [e3]
  refine pl_j k.1 k.2.1 k.2.2.1 (by omega) ?_ (by omega) h3 (by rw [← e3]; exact hb)
  rw [pw_b1]
  unfold pTold
  rw [iC_f (fun z => z N.2.2), N.1, N.2.1]
theorem ll_debt {T : Int → Int} {n a p1 p2 p3 x : Int} {y : PH} (x0 : 0 ≤ x) (x1 : x < 1000) (x2 : x ≤ 99999) (e1 : p1 = a + 4 + 1) (e2 : p2 = p1 + nd_ x) (e3 : p3 = p2 + 1) (h1 : P_T T a 32) (h2 : P_N T p1 x) (h3 : T p2 = 59) (hn : p3 ≤ n) (hb : NB_ T n p3) : pLine T n a y = (-1, p3, zput y (fu_ (y 1) (56 + 1) x)) := by
  have hd := nd_bd' x
  have f0 := pn_0 x0 h2
  have k := kw_p (n := n) (p := p1) (j := 2) 4 e1 (by decide) (by decide +kernel) (by decide +kernel) (by decide +kernel) h1 (by omega) (by omega)
  have N := ok_n (n := n) (lo := 0) (hi := 99999) k.2.2.2 x0 x1 (by omega) h2 (nd_no (by rw [← e2, h3]; omega)) x0 x2
  rw [← e2] at N
  rw [e3]
  refine pl_j k.1 k.2.1 k.2.2.1 (by omega) ?_ (by omega) h3 (by rw [← e3]; exact hb)
  rw [pw_b2]
  unfold pTold
  rw [iC_f (fun z => z N.2.2), N.1, N.2.1]
theorem ll_months {T : Int → Int} {n a p1 p2 p3 x : Int} {y : PH} (x0 : 0 ≤ x) (x1 : x < 1000) (x2 : x ≤ 240) (e1 : p1 = a + 6 + 1) (e2 : p2 = p1 + nd_ x) (e3 : p3 = p2 + 1) (h1 : P_T T a 42) (h2 : P_N T p1 x) (h3 : T p2 = 59) (hn : p3 ≤ n) (hb : NB_ T n p3) : pLine T n a y = (-1, p3, zput y (fu_ (y 1) (56 + 2) x)) := by
  have hd := nd_bd' x
  have f0 := pn_0 x0 h2
  have k := kw_p (n := n) (p := p1) (j := 19) 6 e1 (by decide) (by decide +kernel) (by decide +kernel) (by decide +kernel) h1 (by omega) (by omega)
  have N := ok_n (n := n) (lo := 0) (hi := 240) k.2.2.2 x0 x1 (by omega) h2 (nd_no (by rw [← e2, h3]; omega)) x0 x2
  rw [← e2] at N
  rw [e3]
  refine pl_j k.1 k.2.1 k.2.2.1 (by omega) ?_ (by omega) h3 (by rw [← e3]; exact hb)
  rw [pw_b19]
  unfold pTold
  rw [iC_f (fun z => z N.2.2), N.1, N.2.1]
/-- a thing of which nothing was given yet -/
theorem gk_no {P t G K k th : Int} {y : PH} (V : YV_ P t G K y) (h : K ≤ th) : ¬ gk_ y k th := fun ⟨g, g0, g1, _, e⟩ => by
  have := V.2.2.2.2.2 g g0 g1
  omega
/-- 'to' and a person: b2 where ' to ' begins, p where the name stands -/
theorem to_p {T : Int → Int} {n b2 p r P t G K q : Int} {y : PH} (V : YV_ P t G K y) (q0 : 0 ≤ q) (q1 : q < P) (P1 : P ≤ 12) (e1 : p = b2 + 4) (e2 : r = p + 1) (h1 : P_T T b2 34) (h2 : T p = 97 + q) (hn : r ≤ n) (h3 : ¬ (97 ≤ T r ∧ T r ≤ 122)) : okW T n b2 8 ∧ wn_ T n b2 = b2 + 1 + (2 : Nat) ∧ tP y T n (b2 + 1 + (2 : Nat)) = q ∧ wn_ T n (b2 + 1 + (2 : Nat)) = r := by
  have m := mid_w (n := n) (p := p) (j := 8) 2 (by omega) (by decide) (by decide +kernel) (by decide +kernel) (by decide +kernel) (by decide +kernel) h1 (by omega) (by omega)
  have u := ok_u (n := n) m.2.2.2 (by omega) (by omega) (nl_no (by rw [← e2]; exact h3))
  rw [← e2] at u
  refine ⟨m.2.2.1, m.2.1, ?_, u.1⟩
  unfold tP
  rw [m.2.2.2, u.2.1]
  exact fp_old V q0 q1 h2
theorem ll_give {T : Int → Int} {n a p1 p2 p3 p4 p5 P t G K th q : Int} {y : PH} (V : VV_ P t G K y) (P1 : P ≤ 12) (t1 : t ≤ 7) (G1 : G < 12) (q0 : 0 ≤ q) (q1 : q < P) (h0 : 0 ≤ th) (ht : th < t) (hk : K ≤ th) (e1 : p1 = a + 4 + 1) (e2 : p2 = p1 + 1) (e3 : p3 = p2 + 4) (e4 : p4 = p3 + 1) (e5 : p5 = p4 + 1) (h1 : P_T T a 33) (h2 : T p1 = 116 + th) (h3 : P_T T p2 34) (h4 : T p3 = 97 + q) (h5 : T p4 = 59) (hn : p5 ≤ n) (hb : NB_ T n p5) : ∃ y' : PH, VV_ P t (G + 1) (th + 1) y' ∧ pLine T n a y = (-1, p5, y') := by
  have k := kw_p (n := n) (p := p1) (j := 7) 4 e1 (by decide) (by decide +kernel) (by decide +kernel) (by decide +kernel) h1 (by omega) (by omega)
  have b2 : T p2 = 32 := by
    have := pt_at (c := 32) 0 (by decide +kernel) h3
    rwa [show p2 + ((0 : Nat) : Int) = p2 by omega] at this
  have w := ok_u (n := n) k.2.2.2 (by omega) (by omega) (nl_no (by rw [← e2, b2]; omega))
  rw [← e2] at w
  have hT : tT y T n (a + (4 : Nat)) = th := by
    unfold tT
    rw [k.2.2.2, w.2.1]
    exact ft_old V.1 h0 ht h2
  have o := to_p (n := n) V.1 q0 q1 P1 e3 e4 h3 h4 (by omega) (by rw [h5]; omega)
  have g1 : pgT 0 T n (a + (4 : Nat)) y = (-1, p2, fun _ _ => th) := by
    unfold pgT
    rw [iC_t (Or.inl rfl), hT, iC_f (fun z => z.elim (fun z => by omega) (fun z => z.elim (gk_no V.1 hk) (fun z => gk_no V.1 hk z.2))), w.1]
  have g2 : pgM 0 T n p2 y = (-1, p2, fun _ _ => -1) := by unfold pgM; rw [iC_t rfl]
  have g5 : pgR 0 T n p4 y = (-1, p4, fun _ _ => -1) := by unfold pgR; rw [iC_f (by omega)]
  have v := yv_gi (k := 0) (p := q) (th := th) (m := -1) (r := -1) (yv_k (K' := th + 1) (by omega) V.1) (by omega)
  refine ⟨_, ⟨v.1, yh_1 v.2 V.2⟩, ?_⟩
  rw [e5]
  refine pl_j k.1 k.2.1 k.2.2.1 (by omega) ?_ (by omega) h5 (by rw [← e5]; exact hb)
  rw [pw_b7]
  exact pg_k (by have := V.1.2.2.1; omega) g1 g2 o.1 o.2.1 o.2.2.1 q0 o.2.2.2 g5
theorem ll_from {T : Int → Int} {n a p1 p2 p3 p4 p5 p6 p7 p8 p9 P t G K th q x r : Int} {y : PH} (V : VV_ P t G K y) (P1 : P ≤ 12) (t1 : t ≤ 7) (G1 : G < 12) (q0 : 0 ≤ q) (q1 : q < P) (h0 : 0 ≤ th) (ht : th < t) (hk : K ≤ th) (x0 : 1 ≤ x) (x1 : x < 1000) (r0 : 1 ≤ r) (r1 : r ≤ 4) (e1 : p1 = a + 4 + 1) (e2 : p2 = p1 + 1) (e3 : p3 = p2 + 1) (e4 : p4 = p3 + nd_ x) (e5 : p5 = p4 + 4) (e6 : p6 = p5 + 1) (e7 : p7 = p6 + 6) (e8 : p8 = p7 + nd_ r) (e9 : p9 = p8 + 1) (h1 : P_T T a 35) (h2 : T p1 = 116 + th) (h3 : T p2 = 32) (h4 : P_N T p3 x) (h5 : P_T T p4 34) (h6 : T p5 = 97 + q) (h7 : P_T T p6 36) (h8 : P_N T p7 r) (h9 : T p8 = 59) (hn : p9 ≤ n) (hb : NB_ T n p9) : ∃ y' : PH, VV_ P t (G + 1) (th + 1) y' ∧ pLine T n a y = (-1, p9, y') := by
  have hd := nd_bd' x
  have hd2 := nd_bd' r
  have k := kw_p (n := n) (p := p1) (j := 11) 4 e1 (by decide) (by decide +kernel) (by decide +kernel) (by decide +kernel) h1 (by omega) (by omega)
  have w := ok_u (n := n) k.2.2.2 (by omega) (by omega) (nl_no (by rw [← e2, h3]; omega))
  rw [← e2] at w
  have hT : tT y T n (a + (4 : Nat)) = th := by
    unfold tT
    rw [k.2.2.2, w.2.1]
    exact ft_old V.1 h0 ht h2
  have f0 := pn_0 (by omega) h4
  have f1 := pn_0 (by omega) h8
  have b4 : T p4 = 32 := by
    have := pt_at (c := 32) 0 (by decide +kernel) h5
    rwa [show p4 + ((0 : Nat) : Int) = p4 by omega] at this
  have b6 : T p6 = 32 := by
    have := pt_at (c := 32) 0 (by decide +kernel) h7
    rwa [show p6 + ((0 : Nat) : Int) = p6 by omega] at this
  have n2 : nb_ T n p2 = p3 := by rw [e3]; exact nb_1 (by omega) h3 (nb_no (by rw [← e3]; omega))
  have N := ok_n (n := n) (lo := 1) (hi := 9999) n2 (by omega) x1 (by omega) h4 (nd_no (by rw [← e4, b4]; omega)) x0 (by omega)
  rw [← e4] at N
  have o := to_p (n := n) V.1 q0 q1 P1 e5 e6 h5 h6 (by omega) (by rw [b6]; omega)
  have m := mid_w (n := n) (p := p7) (j := 10) 4 (by omega) (by decide) (by decide +kernel) (by decide +kernel) (by decide +kernel) (by decide +kernel) h7 (by omega) (by omega)
  have N2 := ok_n (n := n) (lo := 1) (hi := 4) m.2.2.2 (by omega) (by omega) (by omega) h8 (nd_no (by rw [← e8, h9]; omega)) r0 r1
  rw [← e8] at N2
  have g1 : pgT 2 T n (a + (4 : Nat)) y = (-1, p2, fun _ _ => th) := by
    unfold pgT
    rw [iC_t (Or.inr rfl), hT, iC_f (fun z => z.elim (fun z => by omega) (fun z => z.elim (gk_no V.1 hk) (fun z => gk_no V.1 hk z.2))), w.1]
  have g2 : pgM 2 T n p2 y = (-1, p4, fun _ _ => x) := by
    unfold pgM
    rw [iC_f (by omega), iC_f (fun z => z (by rw [iC_f (by omega)]; exact N.2.2)), N.1, N.2.1]
  have g5 : pgR 2 T n p6 y = (-1, p8, fun _ _ => r) := by
    unfold pgR
    rw [iC_t (Or.inr rfl), iC_t (by rw [m.1, m.2.1]; omega), iC_f (fun z => z m.2.2.1), m.2.1, iC_f (fun z => z N2.2.2), N2.1, N2.2.1]
  have v := yv_gi (k := 2) (p := q) (th := th) (m := x) (r := r) (yv_k (K' := th + 1) (by omega) V.1) (by omega)
  refine ⟨_, ⟨v.1, yh_1 v.2 V.2⟩, ?_⟩
  rw [e9]
  refine pl_j k.1 k.2.1 k.2.2.1 (by omega) ?_ (by omega) h9 (by rw [← e9]; exact hb)
  rw [pw_b11]
  exact pg_k (by have := V.1.2.2.1; omega) g1 g2 o.1 o.2.1 o.2.2.1 q0 o.2.2.2 g5
theorem ll_sum {T : Int → Int} {n a p1 p2 p3 p4 p5 p6 P t G K q x r : Int} {y : PH} (V : VV_ P t G K y) (K0 : 0 ≤ K) (P1 : P ≤ 12) (t1 : t ≤ 8) (G1 : G < 12) (q0 : 0 ≤ q) (q1 : q < P) (x0 : 1 ≤ x) (x1 : x < 1000) (e1 : p1 = a + 3 + 1) (e2 : p2 = p1 + nd_ x) (e3 : p3 = p2 + 4) (e4 : p4 = p3 + 1) (e6 : p6 = p5 + 1) (h1 : P_T T a 37) (h2 : P_N T p1 x) (h3 : P_T T p2 34) (h4 : T p3 = 97 + q) (h7 : ¬ (97 ≤ T p4 ∧ T p4 ≤ 122)) (hp : p4 ≤ p5) (g5 : pgR 1 T n p4 y = (-1, p5, fun _ _ => r)) (h5 : T p5 = 59) (hn : p6 ≤ n) (hb : NB_ T n p6) : ∃ y' : PH, VV_ P t (G + 1) K y' ∧ pLine T n a y = (-1, p6, y') := by
  have hd := nd_bd' x
  have f0 := pn_0 (by omega) h2
  have k := kw_p (n := n) (p := p1) (j := 9) 3 e1 (by decide) (by decide +kernel) (by decide +kernel) (by decide +kernel) h1 (by omega) (by omega)
  have b2 : T p2 = 32 := by
    have := pt_at (c := 32) 0 (by decide +kernel) h3
    rwa [show p2 + ((0 : Nat) : Int) = p2 by omega] at this
  have N := ok_n (n := n) (lo := 1) (hi := 9999) k.2.2.2 (by omega) x1 (by omega) h2 (nd_no (by rw [← e2, b2]; omega)) x0 (by omega)
  rw [← e2] at N
  have o := to_p (n := n) V.1 q0 q1 P1 e3 e4 h3 h4 (by omega) h7
  have g1 : pgT 1 T n (a + (3 : Nat)) y = (-1, a + (3 : Nat), fun _ _ => -1) := by unfold pgT; rw [iC_f (by omega)]
  have g2 : pgM 1 T n (a + (3 : Nat)) y = (-1, p2, fun _ _ => x) := by
    unfold pgM
    rw [iC_f (by omega), iC_f (fun z => z (by rw [iC_f (by omega)]; exact N.2.2)), N.1, N.2.1]
  have v := yv_gi (k := 1) (p := q) (th := -1) (m := x) (r := r) V.1 (by omega)
  refine ⟨_, ⟨v.1, yh_1 v.2 V.2⟩, ?_⟩
  rw [e6]
  refine pl_j k.1 k.2.1 k.2.2.1 (by omega) ?_ (by omega) h5 (by rw [← e6]; exact hb)
  rw [pw_b9]
  exact pg_k (by have := V.1.2.2.1; omega) g1 g2 o.1 o.2.1 o.2.2.1 q0 o.2.2.2 g5
theorem ll_rest {T : Int → Int} {n a p1 p2 p3 p4 p5 P t G K q x : Int} {y : PH} (V : VV_ P t G K y) (K0 : 0 ≤ K) (P1 : P ≤ 12) (t1 : t ≤ 8) (G1 : G < 12) (q0 : 0 ≤ q) (q1 : q < P) (x0 : 1 ≤ x) (x1 : x ≤ 9) (e1 : p1 = a + 4 + 1) (e2 : p2 = p1 + nd_ x) (e3 : p3 = p2 + 4) (e4 : p4 = p3 + 1) (e5 : p5 = p4 + 1) (h1 : P_T T a 39) (h2 : P_N T p1 x) (h3 : P_T T p2 34) (h4 : T p3 = 97 + q) (h5 : T p4 = 59) (hn : p5 ≤ n) (hb : NB_ T n p5) : ∃ y' : PH, VV_ P t (G + 1) K y' ∧ pLine T n a y = (-1, p5, y') := by
  have hd := nd_bd' x
  have f0 := pn_0 (by omega) h2
  have k := kw_p (n := n) (p := p1) (j := 12) 4 e1 (by decide) (by decide +kernel) (by decide +kernel) (by decide +kernel) h1 (by omega) (by omega)
  have b2 : T p2 = 32 := by
    have := pt_at (c := 32) 0 (by decide +kernel) h3
    rwa [show p2 + ((0 : Nat) : Int) = p2 by omega] at this
  have N := ok_n (n := n) (lo := 1) (hi := 9) k.2.2.2 (by omega) (by omega) (by omega) h2 (nd_no (by rw [← e2, b2]; omega)) x0 x1
  rw [← e2] at N
  have o := to_p (n := n) V.1 q0 q1 P1 e3 e4 h3 h4 (by omega) (by rw [h5]; omega)
  have g1 : pgT 3 T n (a + (4 : Nat)) y = (-1, a + (4 : Nat), fun _ _ => -1) := by unfold pgT; rw [iC_f (by omega)]
  have g2 : pgM 3 T n (a + (4 : Nat)) y = (-1, p2, fun _ _ => x) := by
    unfold pgM
    rw [iC_f (by omega), iC_f (fun z => z (by rw [iC_t rfl]; exact N.2.2)), N.1, N.2.1]
  have g5 : pgR 3 T n p4 y = (-1, p4, fun _ _ => -1) := by unfold pgR; rw [iC_f (by omega)]
  have v := yv_gi (k := 3) (p := q) (th := -1) (m := x) (r := -1) V.1 (by omega)
  refine ⟨_, ⟨v.1, yh_1 v.2 V.2⟩, ?_⟩
  rw [e5]
  refine pl_j k.1 k.2.1 k.2.2.1 (by omega) ?_ (by omega) h5 (by rw [← e5]; exact hb)
  rw [pw_b12]
  exact pg_k (by have := V.1.2.2.1; omega) g1 g2 o.1 o.2.1 o.2.2.1 q0 o.2.2.2 g5
theorem ll_dead {T : Int → Int} {n a p : Int} {P t G K : Int} {y : PH} (V : VV_ P t G K y) (P0 : 0 < P) (t1 : t ≤ 8) (e1 : p = a + 7) (h1 : P_T T a 40) (hn : p ≤ n) (hb : NB_ T n p) : ∃ y' : PH, (YV_ P t G K y' ∧ ∀ i : Int, 0 ≤ i → i < 8 → y' 1 (8 + i) = 0) ∧ pLine T n a y = (-1, p, y') := by
  have c5 : T (a + 5) = 97 := pt_at (c := 97) 5 (by decide +kernel) h1
  have c6 : T (a + 6) = 59 := pt_at (c := 59) 6 (by decide +kernel) h1
  have k := kw_p (n := n) (p := a + 5) (j := 18) 4 (by omega) (by decide) (by decide +kernel) (by decide +kernel) (by decide +kernel) h1 (by omega) (by omega)
  have w := ok_u (n := n) k.2.2.2 (by omega) (by omega) (nl_no (by rw [show a + 5 + 1 = a + 6 by omega, c6]; omega))
  have hP : tP y T n (a + (4 : Nat)) = 0 := by
    unfold tP
    rw [k.2.2.2, w.2.1]
    exact fp_old V.1 (Int.le_refl _) P0 c5
  refine ⟨zput y (fu_ (y 1) (32 + 0) 1), ⟨yv_put V.1, fun i i0 i1 => ?_⟩, ?_⟩
  · rw [zput_1, fu_ne (by omega)]
    exact V.2.1 i i0 i1
  · rw [show p = a + 6 + 1 by omega]
    refine pl_j k.1 k.2.1 k.2.2.1 (by omega) ?_ (by omega) c6 (by rw [show a + 6 + 1 = p by omega]; exact hb)
    rw [pw_b18]
    unfold pDead
    rw [hP, iC_f (fun z => z ⟨by decide, V.2.2⟩), w.1, show a + 5 + 1 = a + 6 by omega]
theorem ll_lost {T : Int → Int} {n a p1 p2 p3 P t G K x : Int} {y : PH} (V : YV_ P t G K y ∧ ∀ i : Int, 0 ≤ i → i < 8 → y 1 (8 + i) = 0) (t0 : 0 < t) (t1 : t ≤ 8) (x0 : 0 ≤ x) (x1 : x < 1000) (e1 : p1 = a + 15) (e2 : p2 = p1 + nd_ x) (e3 : p3 = p2 + 1) (h1 : P_T T a 41) (h2 : P_N T p1 x) (h3 : T p2 = 59) (hn : p3 ≤ n) (hb : NB_ T n p3) : ∃ y' : PH, True ∧ pLine T n a y = (-1, p3, y') := by
  have hd := nd_bd' x
  have f0 := pn_0 x0 h2
  have c5 : T (a + 5) = 116 := pt_at (c := 116) 5 (by decide +kernel) h1
  have c6 : T (a + 6) = 32 := pt_at (c := 32) 6 (by decide +kernel) h1
  have c7 : T (a + 7) = 105 := pt_at (c := 105) 7 (by decide +kernel) h1
  have c14 : T (a + 14) = 32 := pt_at (c := 32) 14 (by decide +kernel) h1
  have k := kw_p (n := n) (p := a + 5) (j := 16) 4 (by omega) (by decide) (by decide +kernel) (by decide +kernel) (by decide +kernel) h1 (by omega) (by omega)
  have w := ok_u (n := n) k.2.2.2 (by omega) (by omega) (nl_no (by rw [show a + 5 + 1 = a + 6 by omega, c6]; omega))
  rw [show a + 5 + 1 = a + 6 by omega] at w
  have hT : tT y T n (a + (4 : Nat)) = 0 := by
    unfold tT
    rw [k.2.2.2, w.2.1]
    exact ft_old V.1 (Int.le_refl _) t0 c5
  have n6 : nb_ T n (a + 6) = a + 7 := by
    have := nb_1 (n := n) (a := a + 6) (by omega) c6 (nb_no (by rw [show a + 6 + 1 = a + 7 by omega, c7]; omega))
    rwa [show a + 6 + 1 = a + 7 by omega] at this
  have hw : P_T T (a + 7) 17 := pt_sub (J := 41) 7 (by decide +kernel) h1
  have hl : ((txb_ 17).length : Int) = 7 := by decide +kernel
  have W := ok_w (n := n) (j := 17) n6 (by decide) (by rw [hl]; omega) hw (nl_no (by rw [hl, show a + 7 + 7 = a + 14 by omega, c14]; omega))
  rw [hl, show a + 7 + 7 = a + 14 by omega] at W
  have n14 : nb_ T n (a + 14) = p1 := by
    have := nb_1 (n := n) (a := a + 14) (by omega) c14 (nb_no (by rw [show a + 14 + 1 = p1 by omega]; omega))
    rwa [show a + 14 + 1 = p1 by omega] at this
  have N := ok_n (n := n) (lo := 0) (hi := 9999) n14 x0 x1 (by omega) h2 (nd_no (by rw [← e2, h3]; omega)) x0 (by omega)
  rw [← e2] at N
  have B : pBody 16 T n a (a + (4 : Nat)) y = (-1, p2, zput y (flost (y 1) (tT y T n (a + (4 : Nat))) (dv_ T n (a + 14)))) := by
    rw [pw_b16]
    unfold pLost
    rw [iC_f (fun z => z ⟨by rw [hT]; decide, by rw [hT]; exact V.2 0 (by decide) (by decide)⟩), w.1, iC_f (fun z => z W.2.2.1), W.1, iC_f (fun z => z N.2.2), N.1]
  rw [e3]
  exact ⟨_, trivial, pl_j k.1 k.2.1 k.2.2.1 (by omega) B (by omega) h3 (by rw [← e3]; exact hb)⟩
theorem ll_rule {T : Int → Int} {n a p : Int} {y : PH} (e1 : p = a + 11) (h1 : P_T T a 43) (hn : p ≤ n) (hb : NB_ T n p) : ∃ y' : PH, True ∧ pLine T n a y = (-1, p, y') := by
  have c5 : T (a + 5) = 119 := pt_at (c := 119) 5 (by decide +kernel) h1
  have c10 : T (a + 10) = 59 := pt_at (c := 59) 10 (by decide +kernel) h1
  have k := kw_p (n := n) (p := a + 5) (j := 21) 4 (by omega) (by decide) (by decide +kernel) (by decide +kernel) (by decide +kernel) h1 (by omega) (by omega)
  have hw : P_T T (a + 5) 22 := pt_sub (J := 43) 5 (by decide +kernel) h1
  have hl : ((txb_ 22).length : Int) = 5 := by decide +kernel
  have W := ok_w (n := n) (j := 22) k.2.2.2 (by decide) (by rw [hl]; omega) hw (nl_no (by rw [hl, show a + 5 + 5 = a + 10 by omega, c10]; omega))
  rw [hl, show a + 5 + 5 = a + 10 by omega] at W
  have B : pBody 21 T n a (a + (4 : Nat)) y = (-1, a + 10, zput y (fu_ (y 1) (56 + 4) 1)) := by
    rw [pw_b21]
    unfold pRule
    rw [iC_f (fun z => z W.2.2.1), W.1]
  rw [show p = a + 10 + 1 by omega]
  exact ⟨_, trivial, pl_j k.1 k.2.1 k.2.2.1 (by omega) B (by omega) c10 (by rw [show a + 10 + 1 = p by omega]; exact hb)⟩
