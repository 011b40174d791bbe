/-! A LINE PUT BEHIND A TEXT IS READ -/
theorem pt_nb {T : Int → Int} {n a : Int} {J : Nat} (h : 0 < (txb_ J).length ∧ 97 ≤ (txb_ J).getD 0 0) (H : P_T T a J) : NB_ T n a := by
  have := H 0 h.1
  rw [show a + ((0 : Nat) : Int) = a by omega] at this
  exact nb_no (by rw [this]; omega)
theorem gr_no {T : Int → Int} {n p4 : Int} {y : PH} (h : T p4 = 59) (hn : p4 ≤ n) : pgR 1 T n p4 y = (-1, p4, fun _ _ => 4) := by
  have e : nb_ T n p4 = p4 := nb_0 (nb_no (by omega))
  have w := wn_to e 0 (by omega) (fun k hk => absurd hk (Nat.not_lt_zero k)) (nl_no (by rw [show p4 + ((0 : Nat) : Int) = p4 by omega, h]; omega))
  have w1 : wn_ T n p4 = p4 := by rw [w.1]; omega
  unfold pgR
  rw [iC_t (Or.inl rfl), iC_f (by rw [e, w1]; omega), e]
theorem gr_2 {T : Int → Int} {n p4 p5 : Int} {y : PH} (h : P_T T p4 38) (e5 : p5 = p4 + 7) (hn : p5 < n) : pgR 1 T n p4 y = (-1, p5, fun _ _ => 2) := by
  have c6 : T (p4 + 6) = 50 := pt_at (c := 50) 6 (by decide +kernel) h
  have c7 : T (p4 + 7) = 59 := pt_at (c := 59) 7 (by decide +kernel) h
  have m := mid_w (n := n) (p := p4 + 6) (j := 10) 4 (by omega) (by decide) (by decide +kernel) (by decide +kernel) (by decide +kernel) (by decide +kernel) h (by omega) (by omega)
  have d2 : nd_ 2 = 1 := by decide
  have hN : P_N T (p4 + 6) 2 := fun k k0 k1 => by
    rw [d2] at k1
    rw [show k = 0 by omega, d2, show p4 + 6 + 0 = p4 + 6 by omega, c6, show (1 : Int) - 1 - 0 = 0 by omega, (dt_3 (v := 2) (by decide) (by decide)).1]
    decide
  have N := ok_n (n := n) (lo := 1) (hi := 4) m.2.2.2 (by decide) (by decide) (by rw [d2]; omega) hN (nd_no (by rw [d2, show p4 + 6 + 1 = p4 + 7 by omega, c7]; omega)) (by decide) (by decide)
  rw [d2, show p4 + 6 + 1 = p5 by omega] at N
  unfold pgR
  rw [iC_t (Or.inl rfl), iC_t (by rw [m.1, m.2.1]; omega), iC_f (fun z => z m.2.2.1), m.2.1, iC_f (fun z => z N.2.2), N.1, N.2.1]
theorem rt_child {j : Nat} {u : UT} {P t G K : Int} (R : RT_ j u (VV_ P t G K)) (P0 : 0 ≤ P) (P1 : P < 12) (t1 : t ≤ 8) : RT_ (j + 1) (tx_ (tc_ (tx_ u 28) (97 + P)) 25) (VV_ (P + 1) t G K) := by
  have u0 := R.1
  refine rt_ln R (by rw [tx1_25, tc1_, tx1_28]; omega) (fun T n E => ?_) (fun T n y E hb V => ?_)
  ·
    obtain ⟨E2, h3⟩ := ex_x (by rw [tc1_, tx1_28]; omega) E
    obtain ⟨E1, h2⟩ := ex_c (by rw [tx1_28]; omega) E2
    obtain ⟨E0, h1⟩ := ex_x u0 E1
    exact ⟨E0, pt_nb (by decide +kernel) h1⟩
  · have hn := E.1.2
    obtain ⟨E2, h3⟩ := ex_x (by rw [tc1_, tx1_28]; omega) E
    obtain ⟨E1, h2⟩ := ex_c (by rw [tx1_28]; omega) E2
    obtain ⟨E0, h1⟩ := ex_x u0 E1
    exact ll_child V P0 P1 t1 (by rw [tx1_28]; omega) tc1_ tx1_25 h1 h2 (pt_25 h3) hn hb
theorem rt_friend {j : Nat} {u : UT} {P t G K : Int} (R : RT_ j u (VV_ P t G K)) (P0 : 0 ≤ P) (P1 : P < 12) (t1 : t ≤ 8) : RT_ (j + 1) (tx_ (tc_ (tx_ u 24) (97 + P)) 25) (VV_ (P + 1) t G K) := by
  have u0 := R.1
  refine rt_ln R (by rw [tx1_25, tc1_, tx1_24]; omega) (fun T n E => ?_) (fun T n y E hb V => ?_)
  ·
    obtain ⟨E2, h3⟩ := ex_x (by rw [tc1_, tx1_24]; omega) E
    obtain ⟨E1, h2⟩ := ex_c (by rw [tx1_24]; omega) E2
    obtain ⟨E0, h1⟩ := ex_x u0 E1
    exact ⟨E0, pt_nb (by decide +kernel) h1⟩
  · have hn := E.1.2
    obtain ⟨E2, h3⟩ := ex_x (by rw [tc1_, tx1_24]; omega) E
    obtain ⟨E1, h2⟩ := ex_c (by rw [tx1_24]; omega) E2
    obtain ⟨E0, h1⟩ := ex_x u0 E1
    exact ll_friend V P0 P1 t1 (by rw [tx1_24]; omega) tc1_ tx1_25 h1 h2 (pt_25 h3) hn hb
theorem rt_issue {j : Nat} {u : UT} {P q t G K : Int} (R : RT_ j u (VV_ P t G K)) (P0 : 0 ≤ P) (P1 : P < 12) (t1 : t ≤ 8) (q0 : 0 ≤ q) (q1 : q < P) : RT_ (j + 1) (tx_ (tc_ (tx_ (tc_ (tx_ u 26) (97 + P)) 27) (97 + q)) 25) (VV_ (P + 1) t G K) := by
  have u0 := R.1
  refine rt_ln R (by rw [tx1_25, tc1_, tx1_27, tc1_, tx1_26]; omega) (fun T n E => ?_) (fun T n y E hb V => ?_)
  ·
    obtain ⟨E4, h5⟩ := ex_x (by rw [tc1_, tx1_27, tc1_, tx1_26]; omega) E
    obtain ⟨E3, h4⟩ := ex_c (by rw [tx1_27, tc1_, tx1_26]; omega) E4
    obtain ⟨E2, h3⟩ := ex_x (by rw [tc1_, tx1_26]; omega) E3
    obtain ⟨E1, h2⟩ := ex_c (by rw [tx1_26]; omega) E2
    obtain ⟨E0, h1⟩ := ex_x u0 E1
    exact ⟨E0, pt_nb (by decide +kernel) h1⟩
  · have hn := E.1.2
    obtain ⟨E4, h5⟩ := ex_x (by rw [tc1_, tx1_27, tc1_, tx1_26]; omega) E
    obtain ⟨E3, h4⟩ := ex_c (by rw [tx1_27, tc1_, tx1_26]; omega) E4
    obtain ⟨E2, h3⟩ := ex_x (by rw [tc1_, tx1_26]; omega) E3
    obtain ⟨E1, h2⟩ := ex_c (by rw [tx1_26]; omega) E2
    obtain ⟨E0, h1⟩ := ex_x u0 E1
    exact ll_issue V P0 P1 t1 q0 q1 (by rw [tx1_26]; omega) tc1_ tx1_27 tc1_ tx1_25 h1 h2 h3 h4 (pt_25 h5) hn hb
theorem rt_thing {j : Nat} {u : UT} {P t G K x : Int} (R : RT_ j u (VV_ P t G K)) (P1 : P ≤ 12) (t0 : 0 ≤ t) (t1 : t < 7) (x0 : 1 ≤ x) (x1 : x < 1000) : RT_ (j + 1) (tx_ (tn_ (tx_ (tc_ (tx_ u 29) (116 + t)) 30) x) 25) (VV_ P (t + 1) G K) := by
  have u0 := R.1
  have nd0 := nd_bd' x
  refine rt_ln R (by rw [tx1_25, tn1_, tx1_30, tc1_, tx1_29]; omega) (fun T n E => ?_) (fun T n y E hb V => ?_)
  ·
    obtain ⟨E4, h5⟩ := ex_x (by rw [tn1_, tx1_30, tc1_, tx1_29]; omega) E
    obtain ⟨E3, h4⟩ := ex_n (by rw [tx1_30, tc1_, tx1_29]; omega) E4
    obtain ⟨E2, h3⟩ := ex_x (by rw [tc1_, tx1_29]; omega) E3
    obtain ⟨E1, h2⟩ := ex_c (by rw [tx1_29]; omega) E2
    obtain ⟨E0, h1⟩ := ex_x u0 E1
    exact ⟨E0, pt_nb (by decide +kernel) h1⟩
  · have hn := E.1.2
    obtain ⟨E4, h5⟩ := ex_x (by rw [tn1_, tx1_30, tc1_, tx1_29]; omega) E
    obtain ⟨E3, h4⟩ := ex_n (by rw [tx1_30, tc1_, tx1_29]; omega) E4
    obtain ⟨E2, h3⟩ := ex_x (by rw [tc1_, tx1_29]; omega) E3
    obtain ⟨E1, h2⟩ := ex_c (by rw [tx1_29]; omega) E2
    obtain ⟨E0, h1⟩ := ex_x u0 E1
    exact ll_thing V P1 t0 t1 x0 x1 (by rw [tx1_29]; omega) tc1_ tx1_30 tn1_ tx1_25 h1 h2 (pt_30 h3) h4 (pt_25 h5) hn hb
theorem rt_cash {j : Nat} {u : UT} {P t G K x : Int} (R : RT_ j u (VV_ P t G K)) (x0 : 0 ≤ x) (x1 : x < 1000) : RT_ (j + 1) (tx_ (tn_ (tx_ u 31) x) 25) (VV_ P t G K) := by
  have u0 := R.1
  have nd0 := nd_bd' x
  refine rt_ln R (by rw [tx1_25, tn1_, tx1_31]; omega) (fun T n E => ?_) (fun T n y E hb V => ?_)
  ·
    obtain ⟨E2, h3⟩ := ex_x (by rw [tn1_, tx1_31]; omega) E
    obtain ⟨E1, h2⟩ := ex_n (by rw [tx1_31]; omega) E2
    obtain ⟨E0, h1⟩ := ex_x u0 E1
    exact ⟨E0, pt_nb (by decide +kernel) h1⟩
  · have hn := E.1.2
    obtain ⟨E2, h3⟩ := ex_x (by rw [tn1_, tx1_31]; omega) E
    obtain ⟨E1, h2⟩ := ex_n (by rw [tx1_31]; omega) E2
    obtain ⟨E0, h1⟩ := ex_x u0 E1
    exact ⟨_, ⟨yv_put V.1, yh_put V.2 (Or.inr (by decide))⟩, ll_cash x0 x1 (by omega) (by rw [tx1_31]; omega) tn1_ tx1_25 h1 h2 (pt_25 h3) hn hb⟩
theorem rt_debt {j : Nat} {u : UT} {P t G K x : Int} (R : RT_ j u (VV_ P t G K)) (x0 : 0 ≤ x) (x1 : x < 1000) : RT_ (j + 1) (tx_ (tn_ (tx_ u 32) x) 25) (VV_ P t G K) := by
  have u0 := R.1
  have nd0 := nd_bd' x
  refine rt_ln R (by rw [tx1_25, tn1_, tx1_32]; omega) (fun T n E => ?_) (fun T n y E hb V => ?_)
  ·
    obtain ⟨E2, h3⟩ := ex_x (by rw [tn1_, tx1_32]; omega) E
    obtain ⟨E1, h2⟩ := ex_n (by rw [tx1_32]; omega) E2
    obtain ⟨E0, h1⟩ := ex_x u0 E1
    exact ⟨E0, pt_nb (by decide +kernel) h1⟩
  · have hn := E.1.2
    obtain ⟨E2, h3⟩ := ex_x (by rw [tn1_, tx1_32]; omega) E
    obtain ⟨E1, h2⟩ := ex_n (by rw [tx1_32]; omega) E2
    obtain ⟨E0, h1⟩ := ex_x u0 E1
    exact ⟨_, ⟨yv_put V.1, yh_put V.2 (Or.inr (by decide))⟩, ll_debt x0 x1 (by omega) (by rw [tx1_32]; omega) tn1_ tx1_25 h1 h2 (pt_25 h3) hn hb⟩
theorem rt_months {j : Nat} {u : UT} {x : Int} (R : RT_ j u (fun _ => True)) (x0 : 0 ≤ x) (x1 : x < 1000) (x2 : x ≤ 240) : RT_ (j + 1) (tx_ (tn_ (tx_ u 42) x) 25) (fun _ => True) := by
  have u0 := R.1
  have nd0 := nd_bd' x
  refine rt_ln R (by rw [tx1_25, tn1_, tx1_42]; omega) (fun T n E => ?_) (fun T n y E hb V => ?_)
  ·
    obtain ⟨E2, h3⟩ := ex_x (by rw [tn1_, tx1_42]; omega) E
    obtain ⟨E1, h2⟩ := ex_n (by rw [tx1_42]; omega) E2
    obtain ⟨E0, h1⟩ := ex_x u0 E1
    exact ⟨E0, pt_nb (by decide +kernel) h1⟩
  · have hn := E.1.2
    obtain ⟨E2, h3⟩ := ex_x (by rw [tn1_, tx1_42]; omega) E
    obtain ⟨E1, h2⟩ := ex_n (by rw [tx1_42]; omega) E2
    obtain ⟨E0, h1⟩ := ex_x u0 E1
    exact ⟨_, trivial, ll_months x0 x1 (by omega) (by rw [tx1_42]; omega) tn1_ tx1_25 h1 h2 (pt_25 h3) hn hb⟩
theorem rt_give {j : Nat} {u : UT} {P t G K th q : Int} (R : RT_ j u (VV_ P t G K)) (P1 : P ≤ 12) (t1 : t ≤ 7) (G1 : G < 12) (q0 : 0 ≤ q) (q1 : q < P) (k0 : 0 ≤ th) (ht : th < t) (hk : K ≤ th) : RT_ (j + 1) (tx_ (tc_ (tx_ (tc_ (tx_ u 33) (116 + th)) 34) (97 + q)) 25) (VV_ P t (G + 1) (th + 1)) := by
  have u0 := R.1
  refine rt_ln R (by rw [tx1_25, tc1_, tx1_34, tc1_, tx1_33]; omega) (fun T n E => ?_) (fun T n y E hb V => ?_)
  ·
    obtain ⟨E4, h5⟩ := ex_x (by rw [tc1_, tx1_34, tc1_, tx1_33]; omega) E
    obtain ⟨E3, h4⟩ := ex_c (by rw [tx1_34, tc1_, tx1_33]; omega) E4
    obtain ⟨E2, h3⟩ := ex_x (by rw [tc1_, tx1_33]; omega) E3
    obtain ⟨E1, h2⟩ := ex_c (by rw [tx1_33]; omega) E2
    obtain ⟨E0, h1⟩ := ex_x u0 E1
    exact ⟨E0, pt_nb (by decide +kernel) h1⟩
  · have hn := E.1.2
    obtain ⟨E4, h5⟩ := ex_x (by rw [tc1_, tx1_34, tc1_, tx1_33]; omega) E
    obtain ⟨E3, h4⟩ := ex_c (by rw [tx1_34, tc1_, tx1_33]; omega) E4
    obtain ⟨E2, h3⟩ := ex_x (by rw [tc1_, tx1_33]; omega) E3
    obtain ⟨E1, h2⟩ := ex_c (by rw [tx1_33]; omega) E2
    obtain ⟨E0, h1⟩ := ex_x u0 E1
    exact ll_give V P1 t1 G1 q0 q1 k0 ht hk (by rw [tx1_33]; omega) tc1_ tx1_34 tc1_ tx1_25 h1 h2 h3 h4 (pt_25 h5) hn hb
theorem rt_from {j : Nat} {u : UT} {P t G K th q x r : Int} (R : RT_ j u (VV_ P t G K)) (P1 : P ≤ 12) (t1 : t ≤ 7) (G1 : G < 12) (q0 : 0 ≤ q) (q1 : q < P) (k0 : 0 ≤ th) (ht : th < t) (hk : K ≤ th) (x0 : 1 ≤ x) (x1 : x < 1000) (r0 : 1 ≤ r) (r1 : r ≤ 4) : RT_ (j + 1) (tx_ (tn_ (tx_ (tc_ (tx_ (tn_ (tx_ (tc_ (tx_ u 35) (116 + th)) 30) x) 34) (97 + q)) 36) r) 25) (VV_ P t (G + 1) (th + 1)) := by
  have u0 := R.1
  have nd0 := nd_bd' x
  have nd1 := nd_bd' r
  refine rt_ln R (by rw [tx1_25, tn1_, tx1_36, tc1_, tx1_34, tn1_, tx1_30, tc1_, tx1_35]; omega) (fun T n E => ?_) (fun T n y E hb V => ?_)
  ·
    obtain ⟨E8, h9⟩ := ex_x (by rw [tn1_, tx1_36, tc1_, tx1_34, tn1_, tx1_30, tc1_, tx1_35]; omega) E
    obtain ⟨E7, h8⟩ := ex_n (by rw [tx1_36, tc1_, tx1_34, tn1_, tx1_30, tc1_, tx1_35]; omega) E8
    obtain ⟨E6, h7⟩ := ex_x (by rw [tc1_, tx1_34, tn1_, tx1_30, tc1_, tx1_35]; omega) E7
    obtain ⟨E5, h6⟩ := ex_c (by rw [tx1_34, tn1_, tx1_30, tc1_, tx1_35]; omega) E6
    obtain ⟨E4, h5⟩ := ex_x (by rw [tn1_, tx1_30, tc1_, tx1_35]; omega) E5
    obtain ⟨E3, h4⟩ := ex_n (by rw [tx1_30, tc1_, tx1_35]; omega) E4
    obtain ⟨E2, h3⟩ := ex_x (by rw [tc1_, tx1_35]; omega) E3
    obtain ⟨E1, h2⟩ := ex_c (by rw [tx1_35]; omega) E2
    obtain ⟨E0, h1⟩ := ex_x u0 E1
    exact ⟨E0, pt_nb (by decide +kernel) h1⟩
  · have hn := E.1.2
    obtain ⟨E8, h9⟩ := ex_x (by rw [tn1_, tx1_36, tc1_, tx1_34, tn1_, tx1_30, tc1_, tx1_35]; omega) E
    obtain ⟨E7, h8⟩ := ex_n (by rw [tx1_36, tc1_, tx1_34, tn1_, tx1_30, tc1_, tx1_35]; omega) E8
    obtain ⟨E6, h7⟩ := ex_x (by rw [tc1_, tx1_34, tn1_, tx1_30, tc1_, tx1_35]; omega) E7
    obtain ⟨E5, h6⟩ := ex_c (by rw [tx1_34, tn1_, tx1_30, tc1_, tx1_35]; omega) E6
    obtain ⟨E4, h5⟩ := ex_x (by rw [tn1_, tx1_30, tc1_, tx1_35]; omega) E5
    obtain ⟨E3, h4⟩ := ex_n (by rw [tx1_30, tc1_, tx1_35]; omega) E4
    obtain ⟨E2, h3⟩ := ex_x (by rw [tc1_, tx1_35]; omega) E3
    obtain ⟨E1, h2⟩ := ex_c (by rw [tx1_35]; omega) E2
    obtain ⟨E0, h1⟩ := ex_x u0 E1
    exact ll_from V P1 t1 G1 q0 q1 k0 ht hk x0 x1 r0 r1 (by rw [tx1_35]; omega) tc1_ tx1_30 tn1_ tx1_34 tc1_ tx1_36 tn1_ tx1_25 h1 h2 (pt_30 h3) h4 h5 h6 h7 h8 (pt_25 h9) hn hb
theorem rt_sum {j : Nat} {u : UT} {P t G K q x : Int} (R : RT_ j u (VV_ P t G K)) (K0 : 0 ≤ K) (P1 : P ≤ 12) (t1 : t ≤ 8) (G1 : G < 12) (q0 : 0 ≤ q) (q1 : q < P) (x0 : 1 ≤ x) (x1 : x < 1000) : RT_ (j + 1) (tx_ (tc_ (tx_ (tn_ (tx_ u 37) x) 34) (97 + q)) 25) (VV_ P t (G + 1) K) := by
  have u0 := R.1
  have nd0 := nd_bd' x
  refine rt_ln R (by rw [tx1_25, tc1_, tx1_34, tn1_, tx1_37]; omega) (fun T n E => ?_) (fun T n y E hb V => ?_)
  ·
    obtain ⟨E4, h5⟩ := ex_x (by rw [tc1_, tx1_34, tn1_, tx1_37]; omega) E
    obtain ⟨E3, h4⟩ := ex_c (by rw [tx1_34, tn1_, tx1_37]; omega) E4
    obtain ⟨E2, h3⟩ := ex_x (by rw [tn1_, tx1_37]; omega) E3
    obtain ⟨E1, h2⟩ := ex_n (by rw [tx1_37]; omega) E2
    obtain ⟨E0, h1⟩ := ex_x u0 E1
    exact ⟨E0, pt_nb (by decide +kernel) h1⟩
  · have hn := E.1.2
    obtain ⟨E4, h5⟩ := ex_x (by rw [tc1_, tx1_34, tn1_, tx1_37]; omega) E
    obtain ⟨E3, h4⟩ := ex_c (by rw [tx1_34, tn1_, tx1_37]; omega) E4
    obtain ⟨E2, h3⟩ := ex_x (by rw [tn1_, tx1_37]; omega) E3
    obtain ⟨E1, h2⟩ := ex_n (by rw [tx1_37]; omega) E2
    obtain ⟨E0, h1⟩ := ex_x u0 E1
    have hs := pt_25 h5
    have l5 := E4.1.2
    exact ll_sum V K0 P1 t1 G1 q0 q1 x0 x1 (by rw [tx1_37]; omega) tn1_ tx1_34 tc1_ tx1_25 h1 h2 h3 h4 (by rw [hs]; omega) (Int.le_refl _) (gr_no hs l5) hs hn hb
theorem rt_sum2 {j : Nat} {u : UT} {P t G K q x : Int} (R : RT_ j u (VV_ P t G K)) (K0 : 0 ≤ K) (P1 : P ≤ 12) (t1 : t ≤ 8) (G1 : G < 12) (q0 : 0 ≤ q) (q1 : q < P) (x0 : 1 ≤ x) (x1 : x < 1000) : RT_ (j + 1) (tx_ (tc_ (tx_ (tn_ (tx_ u 37) x) 34) (97 + q)) 38) (VV_ P t (G + 1) K) := by
  have u0 := R.1
  have nd0 := nd_bd' x
  refine rt_ln R (by rw [tx1_38, tc1_, tx1_34, tn1_, tx1_37]; omega) (fun T n E => ?_) (fun T n y E hb V => ?_)
  ·
    obtain ⟨E4, h5⟩ := ex_x (by rw [tc1_, tx1_34, tn1_, tx1_37]; omega) E
    obtain ⟨E3, h4⟩ := ex_c (by rw [tx1_34, tn1_, tx1_37]; omega) E4
    obtain ⟨E2, h3⟩ := ex_x (by rw [tn1_, tx1_37]; omega) E3
    obtain ⟨E1, h2⟩ := ex_n (by rw [tx1_37]; omega) E2
    obtain ⟨E0, h1⟩ := ex_x u0 E1
    exact ⟨E0, pt_nb (by decide +kernel) h1⟩
  · have hn := E.1.2
    obtain ⟨E4, h5⟩ := ex_x (by rw [tc1_, tx1_34, tn1_, tx1_37]; omega) E
    obtain ⟨E3, h4⟩ := ex_c (by rw [tx1_34, tn1_, tx1_37]; omega) E4
    obtain ⟨E2, h3⟩ := ex_x (by rw [tn1_, tx1_37]; omega) E3
    obtain ⟨E1, h2⟩ := ex_n (by rw [tx1_37]; omega) E2
    obtain ⟨E0, h1⟩ := ex_x u0 E1
    have hs := pt_at (c := 32) 0 (by decide +kernel) h5
    have hs : T (tc_ (tx_ (tn_ (tx_ u 37) x) 34) (97 + q)).1 = 32 := by rwa [show (tc_ (tx_ (tn_ (tx_ u 37) x) 34) (97 + q)).1 + ((0 : Nat) : Int) = (tc_ (tx_ (tn_ (tx_ u 37) x) 34) (97 + q)).1 by omega] at hs
    have l5 : (tx_ (tc_ (tx_ (tn_ (tx_ u 37) x) 34) (97 + q)) 38).1 = (tc_ (tx_ (tn_ (tx_ u 37) x) 34) (97 + q)).1 + 7 + 1 := by rw [tx1_38]; omega
    exact ll_sum V K0 P1 t1 G1 q0 q1 x0 x1 (by rw [tx1_37]; omega) tn1_ tx1_34 tc1_ l5 h1 h2 h3 h4 (by rw [hs]; omega) (by omega) (gr_2 h5 rfl (by omega)) (pt_at (c := 59) 7 (by decide +kernel) h5) hn hb
theorem rt_rest {j : Nat} {u : UT} {P t G K q x : Int} (R : RT_ j u (VV_ P t G K)) (K0 : 0 ≤ K) (P1 : P ≤ 12) (t1 : t ≤ 8) (G1 : G < 12) (q0 : 0 ≤ q) (q1 : q < P) (x0 : 1 ≤ x) (x1 : x ≤ 9) : RT_ (j + 1) (tx_ (tc_ (tx_ (tn_ (tx_ u 39) x) 34) (97 + q)) 25) (VV_ P t (G + 1) K) := by
  have u0 := R.1
  have nd0 := nd_bd' x
  refine rt_ln R (by rw [tx1_25, tc1_, tx1_34, tn1_, tx1_39]; omega) (fun T n E => ?_) (fun T n y E hb V => ?_)
  ·
    obtain ⟨E4, h5⟩ := ex_x (by rw [tc1_, tx1_34, tn1_, tx1_39]; omega) E
    obtain ⟨E3, h4⟩ := ex_c (by rw [tx1_34, tn1_, tx1_39]; omega) E4
    obtain ⟨E2, h3⟩ := ex_x (by rw [tn1_, tx1_39]; omega) E3
    obtain ⟨E1, h2⟩ := ex_n (by rw [tx1_39]; omega) E2
    obtain ⟨E0, h1⟩ := ex_x u0 E1
    exact ⟨E0, pt_nb (by decide +kernel) h1⟩
  · have hn := E.1.2
    obtain ⟨E4, h5⟩ := ex_x (by rw [tc1_, tx1_34, tn1_, tx1_39]; omega) E
    obtain ⟨E3, h4⟩ := ex_c (by rw [tx1_34, tn1_, tx1_39]; omega) E4
    obtain ⟨E2, h3⟩ := ex_x (by rw [tn1_, tx1_39]; omega) E3
    obtain ⟨E1, h2⟩ := ex_n (by rw [tx1_39]; omega) E2
    obtain ⟨E0, h1⟩ := ex_x u0 E1
    exact ll_rest V K0 P1 t1 G1 q0 q1 x0 x1 (by rw [tx1_39]; omega) tn1_ tx1_34 tc1_ tx1_25 h1 h2 h3 h4 (pt_25 h5) hn hb
/-- what holds behind 'dead a;' -/
def VD_ (P t G K : Int) (y : PH) : Prop := YV_ P t G K y ∧ ∀ i : Int, 0 ≤ i → i < 8 → y 1 (8 + i) = 0
theorem vd_of {P t G K : Int} {y : PH} (V : VV_ P t G K y) : VD_ P t G K y := ⟨V.1, V.2.1⟩
theorem rt_dead {j : Nat} {u : UT} {P t G K : Int} (R : RT_ j u (VV_ P t G K)) (P0 : 0 < P) (t1 : t ≤ 8) : RT_ (j + 1) (tx_ u 40) (VD_ P t G K) := by
  have u0 := R.1
  refine rt_ln R (by rw [tx1_40]; omega) (fun T n E => ?_) (fun T n y E hb V => ?_)
  ·
    obtain ⟨E0, h1⟩ := ex_x u0 E
    exact ⟨E0, pt_nb (by decide +kernel) h1⟩
  · have hn := E.1.2
    obtain ⟨E0, h1⟩ := ex_x u0 E
    exact ll_dead V P0 t1 tx1_40 h1 hn hb
theorem rt_lost {j : Nat} {u : UT} {P t G K x : Int} (R : RT_ j u (VD_ P t G K)) (t0 : 0 < t) (t1 : t ≤ 8) (x0 : 0 ≤ x) (x1 : x < 1000) : RT_ (j + 1) (tx_ (tn_ (tx_ u 41) x) 25) (fun _ => True) := by
  have u0 := R.1
  have nd0 := nd_bd' x
  refine rt_ln R (by rw [tx1_25, tn1_, tx1_41]; omega) (fun T n E => ?_) (fun T n y E hb V => ?_)
  ·
    obtain ⟨E2, h3⟩ := ex_x (by rw [tn1_, tx1_41]; omega) E
    obtain ⟨E1, h2⟩ := ex_n (by rw [tx1_41]; omega) E2
    obtain ⟨E0, h1⟩ := ex_x u0 E1
    exact ⟨E0, pt_nb (by decide +kernel) h1⟩
  · have hn := E.1.2
    obtain ⟨E2, h3⟩ := ex_x (by rw [tn1_, tx1_41]; omega) E
    obtain ⟨E1, h2⟩ := ex_n (by rw [tx1_41]; omega) E2
    obtain ⟨E0, h1⟩ := ex_x u0 E1
    exact ll_lost V t0 t1 x0 x1 tx1_41 tn1_ tx1_25 h1 h2 (pt_25 h3) hn hb
theorem rt_rule {j : Nat} {u : UT} (R : RT_ j u (fun _ => True))  : RT_ (j + 1) (tx_ u 43) (fun _ => True) := by
  have u0 := R.1
  refine rt_ln R (by rw [tx1_43]; omega) (fun T n E => ?_) (fun T n y E hb V => ?_)
  ·
    obtain ⟨E0, h1⟩ := ex_x u0 E
    exact ⟨E0, pt_nb (by decide +kernel) h1⟩
  · have hn := E.1.2
    obtain ⟨E0, h1⟩ := ex_x u0 E
    exact ll_rule tx1_43 h1 hn hb
/-- the whole text is right -/
theorem rt_all {j : Nat} {u : UT} {V : PH → Prop} (R : RT_ j u V) (hj : j ≤ 400) {T : Int → Int} (hT : ∀ k : Int, 0 ≤ k → k < u.1 → T k = u.2 k) : (pRead T u.1 400 (nb_ T u.1 0) yz_).1 = -1 := by
  obtain ⟨y, -, e⟩ := R.2 T u.1 ⟨⟨R.1, Int.le_refl _⟩, hT⟩ (fun z => by have := z.1; omega)
  have h := e (400 - j)
  rw [show 400 - j + j = 400 by omega] at h
  rw [h]
  cases 400 - j with
  | zero => rw [pRead]
  | succ m => rw [pRead, iC_t (by omega)]
