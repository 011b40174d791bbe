/-! the reference reads: a line -/
theorem pB_0 {T : Int → Int} {n s a : Int} {y : PH} : pBody 0 T n s a y = pThing T n s a y := by
  unfold pBody
  rw [iC_t rfl]
theorem pl_0 {T : Int → Int} {n a : Int} {y : PH} (c : iw_ T (nb_ T n a) (wl__ T n a) (24 + 0)) : pLine T n a y = pEnd T n (pThing T n (nb_ T n a) (wn_ T n a) y) := by
  have q := (iw_24 (j := 0) (by decide)).mp c
  have w : nb_ T n a < wn_ T n a := okW_l (by decide) q
  unfold pLine
  rw [iC_f (fun z => z w), (wi_iff (i := 0) (by decide)).mpr q, pB_0]
theorem pB_1 {T : Int → Int} {n s a : Int} {y : PH} : pBody 1 T n s a y = pTold 0 99999 T n a y := by
  unfold pBody
  rw [iC_f (by decide), iC_t rfl]
theorem pl_1 {T : Int → Int} {n a : Int} {y : PH} (c : iw_ T (nb_ T n a) (wl__ T n a) (24 + 1)) : pLine T n a y = pEnd T n (pTold 0 99999 T n (wn_ T n a) y) := by
  have q := (iw_24 (j := 1) (by decide)).mp c
  have w : nb_ T n a < wn_ T n a := okW_l (by decide) q
  unfold pLine
  rw [iC_f (fun z => z w), (wi_iff (i := 1) (by decide)).mpr q, pB_1]
theorem pB_2 {T : Int → Int} {n s a : Int} {y : PH} : pBody 2 T n s a y = pTold 1 99999 T n a y := by
  unfold pBody
  rw [iC_f (by decide), iC_f (by decide), iC_t rfl]
theorem pl_2 {T : Int → Int} {n a : Int} {y : PH} (c : iw_ T (nb_ T n a) (wl__ T n a) (24 + 2)) : pLine T n a y = pEnd T n (pTold 1 99999 T n (wn_ T n a) y) := by
  have q := (iw_24 (j := 2) (by decide)).mp c
  have w : nb_ T n a < wn_ T n a := okW_l (by decide) q
  unfold pLine
  rw [iC_f (fun z => z w), (wi_iff (i := 2) (by decide)).mpr q, pB_2]
theorem pB_3 {T : Int → Int} {n s a : Int} {y : PH} : pBody 3 T n s a y = pPerson 1 T n s a y := by
  unfold pBody
  rw [iC_f (by decide), iC_f (by decide), iC_f (by decide), iC_t rfl]
theorem pl_3 {T : Int → Int} {n a : Int} {y : PH} (c : iw_ T (nb_ T n a) (wl__ T n a) (24 + 3)) : pLine T n a y = pEnd T n (pPerson 1 T n (nb_ T n a) (wn_ T n a) y) := by
  have q := (iw_24 (j := 3) (by decide)).mp c
  have w : nb_ T n a < wn_ T n a := okW_l (by decide) q
  unfold pLine
  rw [iC_f (fun z => z w), (wi_iff (i := 3) (by decide)).mpr q, pB_3]
theorem pB_4 {T : Int → Int} {n s a : Int} {y : PH} : pBody 4 T n s a y = pPerson 0 T n s a y := by
  unfold pBody
  rw [iC_f (by decide), iC_f (by decide), iC_f (by decide), iC_f (by decide), iC_t rfl]
theorem pl_4 {T : Int → Int} {n a : Int} {y : PH} (c : iw_ T (nb_ T n a) (wl__ T n a) (24 + 4)) : pLine T n a y = pEnd T n (pPerson 0 T n (nb_ T n a) (wn_ T n a) y) := by
  have q := (iw_24 (j := 4) (by decide)).mp c
  have w : nb_ T n a < wn_ T n a := okW_l (by decide) q
  unfold pLine
  rw [iC_f (fun z => z w), (wi_iff (i := 4) (by decide)).mpr q, pB_4]
theorem pB_5 {T : Int → Int} {n s a : Int} {y : PH} : pBody 5 T n s a y = pIssue T n s a y := by
  unfold pBody
  rw [iC_f (by decide), iC_f (by decide), iC_f (by decide), iC_f (by decide), iC_f (by decide), iC_t rfl]
theorem pl_5 {T : Int → Int} {n a : Int} {y : PH} (c : iw_ T (nb_ T n a) (wl__ T n a) (24 + 5)) : pLine T n a y = pEnd T n (pIssue T n (nb_ T n a) (wn_ T n a) y) := by
  have q := (iw_24 (j := 5) (by decide)).mp c
  have w : nb_ T n a < wn_ T n a := okW_l (by decide) q
  unfold pLine
  rw [iC_f (fun z => z w), (wi_iff (i := 5) (by decide)).mpr q, pB_5]
theorem pB_7 {T : Int → Int} {n s a : Int} {y : PH} : pBody 7 T n s a y = pGift 0 T n s a y := by
  unfold pBody
  rw [iC_f (by decide), iC_f (by decide), iC_f (by decide), iC_f (by decide), iC_f (by decide), iC_f (by decide), iC_t rfl]
theorem pl_7 {T : Int → Int} {n a : Int} {y : PH} (c : iw_ T (nb_ T n a) (wl__ T n a) (24 + 7)) : pLine T n a y = pEnd T n (pGift 0 T n (nb_ T n a) (wn_ T n a) y) := by
  have q := (iw_24 (j := 7) (by decide)).mp c
  have w : nb_ T n a < wn_ T n a := okW_l (by decide) q
  unfold pLine
  rw [iC_f (fun z => z w), (wi_iff (i := 7) (by decide)).mpr q, pB_7]
theorem pB_9 {T : Int → Int} {n s a : Int} {y : PH} : pBody 9 T n s a y = pGift 1 T n s a y := by
  unfold pBody
  rw [iC_f (by decide), iC_f (by decide), iC_f (by decide), iC_f (by decide), iC_f (by decide), iC_f (by decide), iC_f (by decide), iC_t rfl]
theorem pl_9 {T : Int → Int} {n a : Int} {y : PH} (c : iw_ T (nb_ T n a) (wl__ T n a) (24 + 9)) : pLine T n a y = pEnd T n (pGift 1 T n (nb_ T n a) (wn_ T n a) y) := by
  have q := (iw_24 (j := 9) (by decide)).mp c
  have w : nb_ T n a < wn_ T n a := okW_l (by decide) q
  unfold pLine
  rw [iC_f (fun z => z w), (wi_iff (i := 9) (by decide)).mpr q, pB_9]
theorem pB_11 {T : Int → Int} {n s a : Int} {y : PH} : pBody 11 T n s a y = pGift 2 T n s a y := by
  unfold pBody
  rw [iC_f (by decide), iC_f (by decide), iC_f (by decide), iC_f (by decide), iC_f (by decide), iC_f (by decide), iC_f (by decide), iC_f (by decide), iC_t rfl]
theorem pl_11 {T : Int → Int} {n a : Int} {y : PH} (c : iw_ T (nb_ T n a) (wl__ T n a) (24 + 11)) : pLine T n a y = pEnd T n (pGift 2 T n (nb_ T n a) (wn_ T n a) y) := by
  have q := (iw_24 (j := 11) (by decide)).mp c
  have w : nb_ T n a < wn_ T n a := okW_l (by decide) q
  unfold pLine
  rw [iC_f (fun z => z w), (wi_iff (i := 11) (by decide)).mpr q, pB_11]
theorem pB_12 {T : Int → Int} {n s a : Int} {y : PH} : pBody 12 T n s a y = pGift 3 T n s a y := by
  unfold pBody
  rw [iC_f (by decide), iC_f (by decide), iC_f (by decide), iC_f (by decide), iC_f (by decide), iC_f (by decide), iC_f (by decide), iC_f (by decide), iC_f (by decide), iC_t rfl]
theorem pl_12 {T : Int → Int} {n a : Int} {y : PH} (c : iw_ T (nb_ T n a) (wl__ T n a) (24 + 12)) : pLine T n a y = pEnd T n (pGift 3 T n (nb_ T n a) (wn_ T n a) y) := by
  have q := (iw_24 (j := 12) (by decide)).mp c
  have w : nb_ T n a < wn_ T n a := okW_l (by decide) q
  unfold pLine
  rw [iC_f (fun z => z w), (wi_iff (i := 12) (by decide)).mpr q, pB_12]
theorem pB_13 {T : Int → Int} {n s a : Int} {y : PH} : pBody 13 T n s a y = pSold T n a y := by
  unfold pBody
  rw [iC_f (by decide), iC_f (by decide), iC_f (by decide), iC_f (by decide), iC_f (by decide), iC_f (by decide), iC_f (by decide), iC_f (by decide), iC_f (by decide), iC_f (by decide), iC_t rfl]
theorem pl_13 {T : Int → Int} {n a : Int} {y : PH} (c : iw_ T (nb_ T n a) (wl__ T n a) (24 + 13)) : pLine T n a y = pEnd T n (pSold T n (wn_ T n a) y) := by
  have q := (iw_24 (j := 13) (by decide)).mp c
  have w : nb_ T n a < wn_ T n a := okW_l (by decide) q
  unfold pLine
  rw [iC_f (fun z => z w), (wi_iff (i := 13) (by decide)).mpr q, pB_13]
theorem pB_15 {T : Int → Int} {n s a : Int} {y : PH} : pBody 15 T n s a y = pChanged T n a y := by
  unfold pBody
  rw [iC_f (by decide), iC_f (by decide), iC_f (by decide), iC_f (by decide), iC_f (by decide), iC_f (by decide), iC_f (by decide), iC_f (by decide), iC_f (by decide), iC_f (by decide), iC_f (by decide), iC_t rfl]
theorem pl_15 {T : Int → Int} {n a : Int} {y : PH} (c : iw_ T (nb_ T n a) (wl__ T n a) (24 + 15)) : pLine T n a y = pEnd T n (pChanged T n (wn_ T n a) y) := by
  have q := (iw_24 (j := 15) (by decide)).mp c
  have w : nb_ T n a < wn_ T n a := okW_l (by decide) q
  unfold pLine
  rw [iC_f (fun z => z w), (wi_iff (i := 15) (by decide)).mpr q, pB_15]
theorem pB_16 {T : Int → Int} {n s a : Int} {y : PH} : pBody 16 T n s a y = pLost T n a y := by
  unfold pBody
  rw [iC_f (by decide), iC_f (by decide), iC_f (by decide), iC_f (by decide), iC_f (by decide), iC_f (by decide), iC_f (by decide), iC_f (by decide), iC_f (by decide), iC_f (by decide), iC_f (by decide), iC_f (by decide), iC_t rfl]
theorem pl_16 {T : Int → Int} {n a : Int} {y : PH} (c : iw_ T (nb_ T n a) (wl__ T n a) (24 + 16)) : pLine T n a y = pEnd T n (pLost T n (wn_ T n a) y) := by
  have q := (iw_24 (j := 16) (by decide)).mp c
  have w : nb_ T n a < wn_ T n a := okW_l (by decide) q
  unfold pLine
  rw [iC_f (fun z => z w), (wi_iff (i := 16) (by decide)).mpr q, pB_16]
theorem pB_18 {T : Int → Int} {n s a : Int} {y : PH} : pBody 18 T n s a y = pDead T n a y := by
  unfold pBody
  rw [iC_f (by decide), iC_f (by decide), iC_f (by decide), iC_f (by decide), iC_f (by decide), iC_f (by decide), iC_f (by decide), iC_f (by decide), iC_f (by decide), iC_f (by decide), iC_f (by decide), iC_f (by decide), iC_f (by decide), iC_t rfl]
theorem pl_18 {T : Int → Int} {n a : Int} {y : PH} (c : iw_ T (nb_ T n a) (wl__ T n a) (24 + 18)) : pLine T n a y = pEnd T n (pDead T n (wn_ T n a) y) := by
  have q := (iw_24 (j := 18) (by decide)).mp c
  have w : nb_ T n a < wn_ T n a := okW_l (by decide) q
  unfold pLine
  rw [iC_f (fun z => z w), (wi_iff (i := 18) (by decide)).mpr q, pB_18]
theorem pB_19 {T : Int → Int} {n s a : Int} {y : PH} : pBody 19 T n s a y = pTold 2 240 T n a y := by
  unfold pBody
  rw [iC_f (by decide), iC_f (by decide), iC_f (by decide), iC_f (by decide), iC_f (by decide), iC_f (by decide), iC_f (by decide), iC_f (by decide), iC_f (by decide), iC_f (by decide), iC_f (by decide), iC_f (by decide), iC_f (by decide), iC_f (by decide), iC_t rfl]
theorem pl_19 {T : Int → Int} {n a : Int} {y : PH} (c : iw_ T (nb_ T n a) (wl__ T n a) (24 + 19)) : pLine T n a y = pEnd T n (pTold 2 240 T n (wn_ T n a) y) := by
  have q := (iw_24 (j := 19) (by decide)).mp c
  have w : nb_ T n a < wn_ T n a := okW_l (by decide) q
  unfold pLine
  rw [iC_f (fun z => z w), (wi_iff (i := 19) (by decide)).mpr q, pB_19]
theorem pB_20 {T : Int → Int} {n s a : Int} {y : PH} : pBody 20 T n s a y = pTold 3 99 T n a y := by
  unfold pBody
  rw [iC_f (by decide), iC_f (by decide), iC_f (by decide), iC_f (by decide), iC_f (by decide), iC_f (by decide), iC_f (by decide), iC_f (by decide), iC_f (by decide), iC_f (by decide), iC_f (by decide), iC_f (by decide), iC_f (by decide), iC_f (by decide), iC_f (by decide), iC_t rfl]
theorem pl_20 {T : Int → Int} {n a : Int} {y : PH} (c : iw_ T (nb_ T n a) (wl__ T n a) (24 + 20)) : pLine T n a y = pEnd T n (pTold 3 99 T n (wn_ T n a) y) := by
  have q := (iw_24 (j := 20) (by decide)).mp c
  have w : nb_ T n a < wn_ T n a := okW_l (by decide) q
  unfold pLine
  rw [iC_f (fun z => z w), (wi_iff (i := 20) (by decide)).mpr q, pB_20]
theorem pB_21 {T : Int → Int} {n s a : Int} {y : PH} : pBody 21 T n s a y = pRule T n a y := by
  unfold pBody
  rw [iC_f (by decide), iC_f (by decide), iC_f (by decide), iC_f (by decide), iC_f (by decide), iC_f (by decide), iC_f (by decide), iC_f (by decide), iC_f (by decide), iC_f (by decide), iC_f (by decide), iC_f (by decide), iC_f (by decide), iC_f (by decide), iC_f (by decide), iC_f (by decide), iC_t rfl]
theorem pl_21 {T : Int → Int} {n a : Int} {y : PH} (c : iw_ T (nb_ T n a) (wl__ T n a) (24 + 21)) : pLine T n a y = pEnd T n (pRule T n (wn_ T n a) y) := by
  have q := (iw_24 (j := 21) (by decide)).mp c
  have w : nb_ T n a < wn_ T n a := okW_l (by decide) q
  unfold pLine
  rw [iC_f (fun z => z w), (wi_iff (i := 21) (by decide)).mpr q, pB_21]
theorem pl_no {T : Int → Int} {n a : Int} {y : PH} (nb0 : 0 ≤ nb_ T n a) : ¬ iw_ T (nb_ T n a) (wl__ T n a) (24 + 0) → ¬ iw_ T (nb_ T n a) (wl__ T n a) (24 + 1) → ¬ iw_ T (nb_ T n a) (wl__ T n a) (24 + 2) → ¬ iw_ T (nb_ T n a) (wl__ T n a) (24 + 3) → ¬ iw_ T (nb_ T n a) (wl__ T n a) (24 + 4) → ¬ iw_ T (nb_ T n a) (wl__ T n a) (24 + 5) → ¬ iw_ T (nb_ T n a) (wl__ T n a) (24 + 7) → ¬ iw_ T (nb_ T n a) (wl__ T n a) (24 + 9) → ¬ iw_ T (nb_ T n a) (wl__ T n a) (24 + 11) → ¬ iw_ T (nb_ T n a) (wl__ T n a) (24 + 12) → ¬ iw_ T (nb_ T n a) (wl__ T n a) (24 + 13) → ¬ iw_ T (nb_ T n a) (wl__ T n a) (24 + 15) → ¬ iw_ T (nb_ T n a) (wl__ T n a) (24 + 16) → ¬ iw_ T (nb_ T n a) (wl__ T n a) (24 + 18) → ¬ iw_ T (nb_ T n a) (wl__ T n a) (24 + 19) → ¬ iw_ T (nb_ T n a) (wl__ T n a) (24 + 20) → ¬ iw_ T (nb_ T n a) (wl__ T n a) (24 + 21) → (pLine T n a y).1 = nb_ T n a := by
  intro m0 m1 m2 m3 m4 m5 m7 m9 m11 m12 m13 m15 m16 m18 m19 m20 m21
  unfold pLine
  by_cases w : nb_ T n a < wn_ T n a
  · have e : pBody (wi_ T (nb_ T n a) (wl__ T n a)) T n (nb_ T n a) (wn_ T n a) y = (nb_ T n a, wn_ T n a, y) := by
      unfold pBody
      rw [iC_f (fun z => m0 ((iw_24 (j := 0) (by decide)).mpr ((wi_iff (by decide)).mp z))), iC_f (fun z => m1 ((iw_24 (j := 1) (by decide)).mpr ((wi_iff (by decide)).mp z))), iC_f (fun z => m2 ((iw_24 (j := 2) (by decide)).mpr ((wi_iff (by decide)).mp z))), iC_f (fun z => m3 ((iw_24 (j := 3) (by decide)).mpr ((wi_iff (by decide)).mp z))), iC_f (fun z => m4 ((iw_24 (j := 4) (by decide)).mpr ((wi_iff (by decide)).mp z))), iC_f (fun z => m5 ((iw_24 (j := 5) (by decide)).mpr ((wi_iff (by decide)).mp z))), iC_f (fun z => m7 ((iw_24 (j := 7) (by decide)).mpr ((wi_iff (by decide)).mp z))), iC_f (fun z => m9 ((iw_24 (j := 9) (by decide)).mpr ((wi_iff (by decide)).mp z))), iC_f (fun z => m11 ((iw_24 (j := 11) (by decide)).mpr ((wi_iff (by decide)).mp z))), iC_f (fun z => m12 ((iw_24 (j := 12) (by decide)).mpr ((wi_iff (by decide)).mp z))), iC_f (fun z => m13 ((iw_24 (j := 13) (by decide)).mpr ((wi_iff (by decide)).mp z))), iC_f (fun z => m15 ((iw_24 (j := 15) (by decide)).mpr ((wi_iff (by decide)).mp z))), iC_f (fun z => m16 ((iw_24 (j := 16) (by decide)).mpr ((wi_iff (by decide)).mp z))), iC_f (fun z => m18 ((iw_24 (j := 18) (by decide)).mpr ((wi_iff (by decide)).mp z))), iC_f (fun z => m19 ((iw_24 (j := 19) (by decide)).mpr ((wi_iff (by decide)).mp z))), iC_f (fun z => m20 ((iw_24 (j := 20) (by decide)).mpr ((wi_iff (by decide)).mp z))), iC_f (fun z => m21 ((iw_24 (j := 21) (by decide)).mpr ((wi_iff (by decide)).mp z)))]
    rw [iC_f (fun z => z w), e]
    unfold pEnd
    rw [iC_t (by show ¬ nb_ T n a = -1; omega)]
  · rw [iC_t w]
/-- where a whole line has come to -/
def LZ_ (n : Int) (T : Int → Int) (h0 : PH) (u : OU) (h1 : PH) : Prop := RN_ n T h1 ∧ FL_ h0 h1 ∧
  ((u.1 = -1 ∧ h1 196 17 = -1 ∧ nb_ T n (h1 196 16) = u.2.1 ∧ LN_ u.2.2 h1) ∨ (¬ u.1 = -1 ∧ h1 196 17 = u.1 ∧ 0 ≤ u.1 ∧ u.1 ≤ n))
theorem fl_tr {h h1 h2 : PH} (a : FL_ h h1) (b : FL_ h1 h2) : FL_ h h2 := fun x y p q => (b x y p q).trans (a x y p q)
theorem lx_tr {n : Int} {T : Int → Int} {h0 h h1 : PH} {u : OU} (f : FL_ h0 h) (X : LX_ n T h u h1) : LX_ n T h0 u h1 := ⟨X.1, fl_tr f X.2.1, X.2.2⟩
theorem ly_tr {n : Int} {T : Int → Int} {h0 h h1 : PH} {u : OU} (f : FL_ h0 h) (X : LY_ n T h u h1) : LY_ n T h0 u h1 := by
  rcases X with q | q
  · exact Or.inl (lx_tr f q)
  · exact Or.inr ⟨q.1, fl_tr f q.2.1, q.2.2⟩
section X9W
variable {d bc bs : Nat} {Q : PQ} {h h0 y : PH} {n a f : Int} {T : Int → Int}
theorem st_X9 {h1 : PH} {u : OU} (hd : 3 ≤ d) (hT : ∀ k : Int, 0 ≤ k → k < n → -128 ≤ T k ∧ T k < 128) (Y : LY_ n T h0 u h1) (k : ∀ h2 : PH, LZ_ n T h0 (pEnd T n u) h2 → Q.1 none nN h2) : Cl_ yX9_stop MX9_stop d bc bs [(2, 196)] nN h1 Q := by
  rcases Y with ⟨R, F, ⟨u1, ok, at_, an, P⟩ | ⟨u1, ok, u0, un⟩⟩ | ⟨R, F, ok, b, at_, bn, nE, u1⟩
  · have S : OK9 n T h1 u.2.1 h1 := ⟨R, fun _ _ _ => rfl, ok, at_, an⟩
    have nb0 := nb_0 S
    refine c_X9_stop (by omega) S hT (fun oe h2 S2 e2 => k h2 ?_) (fun oe h2 W2 => k h2 ?_)
    · have e : pEnd T n u = (-1, nb_ T n (nb_ T n u.2.1 + 1), u.2.2) := by
        unfold pEnd
        rw [iC_f (fun q => q u1), iC_f (fun q => q oe)]
      rw [e]
      exact ⟨S2.1, fl_tr F (aw_fl S2.2.1), Or.inl ⟨rfl, S2.2.2.1, by rw [e2], ln_aw P S2.2.1⟩⟩
    · have e : (pEnd T n u).1 = nb_ T n u.2.1 := by
        unfold pEnd
        rw [iC_f (fun q => q u1), iC_t oe]
      exact ⟨W2.1, fl_tr F (aw_fl W2.2.1), Or.inr ⟨by rw [e]; omega, by rw [e]; exact W2.2.2.1, by rw [e]; exact nb0.1, by rw [e]; omega⟩⟩
  · have W : WR9 n T h1 u.1 h1 := ⟨R, fun _ _ _ => rfl, ok, u0, un⟩
    refine kw_X9_stop (by omega) W (k h1 ?_)
    have e : pEnd T n u = u := by
      unfold pEnd
      rw [iC_t u1]
    rw [e]
    exact ⟨R, F, Or.inr ⟨u1, ok, u0, un⟩⟩
  · have S : OK9 n T h1 b h1 := ⟨R, fun _ _ _ => rfl, ok, at_, bn⟩
    have nb0 := nb_0 S
    refine c_X9_stop (by omega) S hT (fun oe _ _ _ => absurd oe nE) (fun _ h2 W2 => k h2 ?_)
    have e : pEnd T n u = u := by
      unfold pEnd
      rw [iC_t (by omega)]
    rw [e]
    exact ⟨W2.1, fl_tr F (aw_fl W2.2.1), Or.inr ⟨by omega, by rw [u1]; exact W2.2.2.1, by omega, by omega⟩⟩
set_option maxRecDepth 100000 in
set_option maxHeartbeats 4000000 in
theorem ln_327 {hc : PH} (hd : 10 ≤ d) (S : OK9 n T h a hc) (e16 : hc 196 16 = nb_ T n a) (hT : ∀ k : Int, 0 ≤ k → k < n → -128 ≤ T k ∧ T k < 128) (P : LN_ y h) (k : ∀ h1 : PH, LZ_ n T h (pLine T n a y) h1 → Q.1 none nN h1) (m0 : ¬ iw_ T (nb_ T n a) (wl__ T n a) (24 + 0)) (m1 : ¬ iw_ T (nb_ T n a) (wl__ T n a) (24 + 1)) (m2 : ¬ iw_ T (nb_ T n a) (wl__ T n a) (24 + 2)) (m19 : ¬ iw_ T (nb_ T n a) (wl__ T n a) (24 + 19)) (m20 : ¬ iw_ T (nb_ T n a) (wl__ T n a) (24 + 20)) (m3 : ¬ iw_ T (nb_ T n a) (wl__ T n a) (24 + 3)) (m4 : ¬ iw_ T (nb_ T n a) (wl__ T n a) (24 + 4)) (m5 : ¬ iw_ T (nb_ T n a) (wl__ T n a) (24 + 5)) (m7 : ¬ iw_ T (nb_ T n a) (wl__ T n a) (24 + 7)) (m9 : ¬ iw_ T (nb_ T n a) (wl__ T n a) (24 + 9)) (m11 : ¬ iw_ T (nb_ T n a) (wl__ T n a) (24 + 11)) (m12 : ¬ iw_ T (nb_ T n a) (wl__ T n a) (24 + 12)) (m13 : ¬ iw_ T (nb_ T n a) (wl__ T n a) (24 + 13)) (m15 : ¬ iw_ T (nb_ T n a) (wl__ T n a) (24 + 15)) : S_ MX9_line d bc bs Q 327 [(2, 196), (9, 0), (9, 0)] [] nN hc := by
  have hG := S.1.1
  have n4 := S.1.2.2.2.1
  have nb0 := nb_0 S
  have yc := ln_c P
  refine s_aload_n dX9_line_327 rfl ?_
  refine s_ldcS (j := 16) (z := 1000 + ((24 + 16 : Nat) : Int)) dX9_line_328 (by decide) rfl rfl (by decide) ?_
  refine s_callV (d' := d - 1) (bc' := 0) (bs' := 0) (as := [_]) dX9_line_330 vf_X9_130 (dd_ (by omega) (by decide)) ⟨Nat.zero_le _, Nat.zero_le _⟩ rfl rfl (Nat.le_of_ble_eq_true rfl) kl_7 rfl io_196 ?_
  refine k_isWord (j := 24 + 16) (by decide) (by omega) S (fun hhG1 ShG1 ehG1 => ?_)
  have S := ShG1
  have e16 := ehG1
  have hG1 := ShG1.1.1
  refine s_if_eq (tgt := 343) dX9_line_333 (by decide) (by first | exact hG1.2 _ _ | exact hG.2 _ _ | exact b01_in _ | assumption | exact ⟨by omega, by omega⟩) (fun c1 => ?_) (fun c1 => ?_)
  · have c1 := b01_0.mp c1
    refine s_aload_n dX9_line_343 rfl ?_
    refine s_ldcS (j := 18) (z := 1000 + ((24 + 18 : Nat) : Int)) dX9_line_344 (by decide) rfl rfl (by decide) ?_
    refine s_callV (d' := d - 1) (bc' := 0) (bs' := 0) (as := [_]) dX9_line_346 vf_X9_130 (dd_ (by omega) (by decide)) ⟨Nat.zero_le _, Nat.zero_le _⟩ rfl rfl (Nat.le_of_ble_eq_true rfl) kl_7 rfl io_196 ?_
    refine k_isWord (j := 24 + 18) (by decide) (by omega) S (fun hhG2 ShG2 ehG2 => ?_)
    have S := ShG2
    have e16 := ehG2
    have hG2 := ShG2.1.1
    refine s_if_eq (tgt := 359) dX9_line_349 (by decide) (by first | exact hG2.2 _ _ | exact hG.2 _ _ | exact b01_in _ | assumption | exact ⟨by omega, by omega⟩) (fun c2 => ?_) (fun c2 => ?_)
    · have c2 := b01_0.mp c2
      refine s_aload_n dX9_line_359 rfl ?_
      refine s_ldcS (j := 21) (z := 1000 + ((24 + 21 : Nat) : Int)) dX9_line_360 (by decide) rfl rfl (by decide) ?_
      refine s_callV (d' := d - 1) (bc' := 0) (bs' := 0) (as := [_]) dX9_line_362 vf_X9_134 (dd_ (by omega) (by decide)) ⟨Nat.zero_le _, Nat.zero_le _⟩ rfl rfl (Nat.le_of_ble_eq_true rfl) kl_7 rfl io_196 ?_
      refine c_X9_takesWord (j := 24 + 21) (by decide) (by omega) S (fun cc3 h3 S3 e3 => ?_) (fun cc4 h4 S4 e4 => ?_)
      · have hG3 := S3.1.1
        have hG := hG3
        have S := S3
        have nb0 := nb_0 S
        have cw := cc3
        refine s_if_eq (tgt := 385) dX9_line_365 (by decide) (by first | exact hG3.2 _ _ | exact hG.2 _ _ | exact b01_in _ | assumption | exact ⟨by omega, by omega⟩) (fun c3 => ?_) (fun c3 => ?_)
        · exact absurd (show (1 : Int) = 0 from c3) (by decide)
        · refine s_aload_n dX9_line_368 rfl ?_
          refine s_ldcS (j := 22) (z := 1000 + ((24 + 22 : Nat) : Int)) dX9_line_369 (by decide) rfl rfl (by decide) ?_
          refine s_callV (d' := d - 1) (bc' := 0) (bs' := 0) (as := [_]) dX9_line_371 vf_X9_221 (dd_ (by omega) (by decide)) ⟨Nat.zero_le _, Nat.zero_le _⟩ rfl rfl (Nat.le_of_ble_eq_true rfl) kl_7 rfl io_196 ?_
          refine c_X9_must (j := 24 + 22) (by decide) (by omega) S (fun cc5 h5 S5 e5 => ?_) (fun cc6 h6 W6 => ?_)
          · have hG5 := S5.1.1
            have hG := hG5
            have S := S5
            have nb0 := nb_0 S
            have okw22 : okW T n (wn_ T n a) 22 := (iw_24 (j := 22) (by decide)).mp cc5
            refine s_aload_n dX9_line_374 rfl ?_
            refine s_getr dX9_line_375 fl_X9_43 kl_7 (by decide) rfl io_196 (z := 22) rfl (rf_7_22 hG5.1 io_196) (rk_7_22 io_196).1 ?_
            refine s_bipush dX9_line_378 (by decide) ?_
            refine s_iconst dX9_line_380 ?_
            refine s_iastoreG dX9_line_381 (rk_7_22 io_196) (by omega) (by omega) hG5 (by first | exact hG5.2 _ _ | exact hG.2 _ _ | exact b01_in _ | assumption | exact ⟨by omega, by omega⟩) (fun hG7 => ?_)
            have P9 := ln_aw P S.2.1
            have YY : LY_ n T h (pRule T n (wn_ T n a) y) _ := Or.inl (lx_o (b := 0) S hG7 (fun x k p q => hs_ne _ (by omega)) (by unfold pRule; rw [iC_f (fun q => q okw22)]; rfl) (ln_row P9 (fun x k p q => hs_ne _ (by omega)) (row_put P9.2.1 (by omega) (by omega) (pm_h (by omega))) (zf_fu (zf_z.mp P.2.2.2.2.2.2.1.1) (by unfold zok; omega))))
            have hp := pl_21 (y := y) cw
            refine s_goto (tgt := 393) dX9_line_382 (by decide) ?_
            refine s_aload_n dX9_line_393 rfl ?_
            refine s_callV (d' := d - 1) (bc' := 0) (bs' := 0) (as := []) dX9_line_394 vf_X9_263 (dd_ (by omega) (by decide)) ⟨Nat.zero_le _, Nat.zero_le _⟩ rfl rfl (Nat.le_of_ble_eq_true rfl) kl_7 rfl io_196 ?_
            refine st_X9 (by omega) hT YY (fun h9 Z9 => ?_)
            rw [← hp] at Z9
            have hG8 := Z9.1.1
            have k9 := k h9 Z9
            exact s_return dX9_line_397 rfl k9
          · have hG6 := W6.1.1
            have hG := hG6
            have W := W6
            have cc : ¬ okW T n (wn_ T n a) 22 := fun q => cc6 ((iw_24 (j := 22) (by decide)).mpr q)
            have hu : (pRule T n (wn_ T n a) y).1 = nb_ T n (wn_ T n a) := by unfold pRule; rw [iC_t cc]
            refine s_aload_n dX9_line_374 rfl ?_
            refine s_getr dX9_line_375 fl_X9_43 kl_7 (by decide) rfl io_196 (z := 22) rfl (rf_7_22 hG6.1 io_196) (rk_7_22 io_196).1 ?_
            refine s_bipush dX9_line_378 (by decide) ?_
            refine s_iconst dX9_line_380 ?_
            refine s_iastoreG dX9_line_381 (rk_7_22 io_196) (by omega) (by omega) hG6 (by first | exact hG6.2 _ _ | exact hG.2 _ _ | exact b01_in _ | assumption | exact ⟨by omega, by omega⟩) (fun hG9 => ?_)
            have X9 := lx_w W hu
            have YY : LY_ n T h (pRule T n (wn_ T n a) y) _ := Or.inl ⟨⟨hG9, (hs_ne _ (by omega)).trans X9.1.2.1, by rw [hs_ne _ (by omega)]; exact X9.1.2.2.1, X9.1.2.2.2.1, fun k p q => (hs_ne _ (by omega)).trans (X9.1.2.2.2.2 k p q)⟩, fun x k p q => (hs_ne _ (by omega)).trans (X9.2.1 x k p q), by
              rcases X9.2.2 with q | q
              · exact absurd (hu.symm.trans q.1) (by omega)
              · exact Or.inr ⟨q.1, (hs_ne _ (by omega)).trans q.2.1, q.2.2⟩⟩
            have hp := pl_21 (y := y) cw
            refine s_goto (tgt := 393) dX9_line_382 (by decide) ?_
            refine s_aload_n dX9_line_393 rfl ?_
            refine s_callV (d' := d - 1) (bc' := 0) (bs' := 0) (as := []) dX9_line_394 vf_X9_263 (dd_ (by omega) (by decide)) ⟨Nat.zero_le _, Nat.zero_le _⟩ rfl rfl (Nat.le_of_ble_eq_true rfl) kl_7 rfl io_196 ?_
            refine st_X9 (by omega) hT YY (fun h9 Z9 => ?_)
            rw [← hp] at Z9
            have hG10 := Z9.1.1
            have k9 := k h9 Z9
            exact s_return dX9_line_397 rfl k9
      · have hG4 := S4.1.1
        have hG := hG4
        have S := S4
        have nb0 := nb_0 S
        have nw21 := cc4
        have e16 := e4
        refine s_if_eq (tgt := 385) dX9_line_365 (by decide) (by first | exact hG4.2 _ _ | exact hG.2 _ _ | exact b01_in _ | assumption | exact ⟨by omega, by omega⟩) (fun c4 => ?_) (fun c4 => ?_)
        · refine s_aload_n dX9_line_385 rfl ?_
          refine s_aload_n dX9_line_386 rfl ?_
          refine s_geti dX9_line_387 fl_X9_104 kl_7 (by decide) rfl io_196 (z := 16) rfl ?_
          refine s_callV (d' := d - 1) (bc' := 0) (bs' := 0) (as := [_]) dX9_line_390 vf_X9_137 (dd_ (by omega) (by decide)) ⟨Nat.zero_le _, Nat.zero_le _⟩ rfl rfl (Nat.le_of_ble_eq_true rfl) kl_7 rfl io_196 ?_
          rw [e16]
          refine c_X9_wrong hG4 ⟨by omega, by omega⟩ (fun h11 g11 f11 w11 => ?_)
          have hG11 := g11
          rw [if_pos S.2.2.1] at w11
          have W := wr_of S g11 (fun x y c => f11 x y (by omega)) (f11 _ _ (by omega)) w11 (by omega) (by omega)
          have hu := pl_no (y := y) nb0.1 (by assumption) (by assumption) (by assumption) (by assumption) (by assumption) (by assumption) (by assumption) (by assumption) (by assumption) (by assumption) (by assumption) (by assumption) (by assumption) (by assumption) (by assumption) (by assumption) (by assumption)
          refine s_aload_n dX9_line_393 rfl ?_
          refine s_callV (d' := d - 1) (bc' := 0) (bs' := 0) (as := []) dX9_line_394 vf_X9_263 (dd_ (by omega) (by decide)) ⟨Nat.zero_le _, Nat.zero_le _⟩ rfl rfl (Nat.le_of_ble_eq_true rfl) kl_7 rfl io_196 ?_
          refine kw_X9_stop (by omega) W ?_
          have Z9 : LZ_ n T h (pLine T n a y) _ := ⟨W.1, aw_fl W.2.1, Or.inr ⟨by have b := W.2.2.2; omega, by rw [hu]; exact W.2.2.1, by have b := W.2.2.2; omega, by have b := W.2.2.2; omega⟩⟩
          have hG12 := Z9.1.1
          have k9 := k _ Z9
          exact s_return dX9_line_397 rfl k9
        · exact absurd rfl c4
    · have c2 := b01_n.mp c2
      refine s_aload_n dX9_line_352 rfl ?_
      refine s_callV (d' := d - 1) (bc' := 0) (bs' := 0) (as := []) dX9_line_353 vf_X9_260 (dd_ (by omega) (by decide)) ⟨Nat.zero_le _, Nat.zero_le _⟩ rfl rfl (Nat.le_of_ble_eq_true rfl) kl_7 rfl io_196 ?_
      have fl0 := aw_fl S.2.1
      have Pb := ln_aw P S.2.1
      have Sb := ok_re S
      refine c_X9_deadLine (by omega) Sb Pb (by assumption) (fun h13 X13 => ?_)
      have hG13 := X13.1.1
      have YY : LY_ n T h _ h13 := Or.inl (lx_tr fl0 X13)
      have hp := pl_18 (y := y) (by assumption : iw_ T (nb_ T n a) (wl__ T n a) (24 + 18))
      refine s_goto (tgt := 393) dX9_line_356 (by decide) ?_
      refine s_aload_n dX9_line_393 rfl ?_
      refine s_callV (d' := d - 1) (bc' := 0) (bs' := 0) (as := []) dX9_line_394 vf_X9_263 (dd_ (by omega) (by decide)) ⟨Nat.zero_le _, Nat.zero_le _⟩ rfl rfl (Nat.le_of_ble_eq_true rfl) kl_7 rfl io_196 ?_
      refine st_X9 (by omega) hT YY (fun h9 Z9 => ?_)
      rw [← hp] at Z9
      have hG14 := Z9.1.1
      have k9 := k h9 Z9
      exact s_return dX9_line_397 rfl k9
  · have c1 := b01_n.mp c1
    refine s_aload_n dX9_line_336 rfl ?_
    refine s_callV (d' := d - 1) (bc' := 0) (bs' := 0) (as := []) dX9_line_337 vf_X9_257 (dd_ (by omega) (by decide)) ⟨Nat.zero_le _, Nat.zero_le _⟩ rfl rfl (Nat.le_of_ble_eq_true rfl) kl_7 rfl io_196 ?_
    have fl0 := aw_fl S.2.1
    have Pb := ln_aw P S.2.1
    have Sb := ok_re S
    refine c_X9_lostLine (by omega) Sb Pb (by assumption) (fun h15 X15 => ?_)
    have hG15 := X15.1.1
    have YY : LY_ n T h _ h15 := Or.inl (lx_tr fl0 X15)
    have hp := pl_16 (y := y) (by assumption : iw_ T (nb_ T n a) (wl__ T n a) (24 + 16))
    refine s_goto (tgt := 393) dX9_line_340 (by decide) ?_
    refine s_aload_n dX9_line_393 rfl ?_
    refine s_callV (d' := d - 1) (bc' := 0) (bs' := 0) (as := []) dX9_line_394 vf_X9_263 (dd_ (by omega) (by decide)) ⟨Nat.zero_le _, Nat.zero_le _⟩ rfl rfl (Nat.le_of_ble_eq_true rfl) kl_7 rfl io_196 ?_
    refine st_X9 (by omega) hT YY (fun h9 Z9 => ?_)
    rw [← hp] at Z9
    have hG16 := Z9.1.1
    have k9 := k h9 Z9
    exact s_return dX9_line_397 rfl k9
set_option maxRecDepth 100000 in
set_option maxHeartbeats 4000000 in
theorem ln_249 {hc : PH} (hd : 10 ≤ d) (S : OK9 n T h a hc) (e16 : hc 196 16 = nb_ T n a) (hT : ∀ k : Int, 0 ≤ k → k < n → -128 ≤ T k ∧ T k < 128) (P : LN_ y h) (k : ∀ h1 : PH, LZ_ n T h (pLine T n a y) h1 → Q.1 none nN h1) (m0 : ¬ iw_ T (nb_ T n a) (wl__ T n a) (24 + 0)) (m1 : ¬ iw_ T (nb_ T n a) (wl__ T n a) (24 + 1)) (m2 : ¬ iw_ T (nb_ T n a) (wl__ T n a) (24 + 2)) (m19 : ¬ iw_ T (nb_ T n a) (wl__ T n a) (24 + 19)) (m20 : ¬ iw_ T (nb_ T n a) (wl__ T n a) (24 + 20)) (m3 : ¬ iw_ T (nb_ T n a) (wl__ T n a) (24 + 3)) (m4 : ¬ iw_ T (nb_ T n a) (wl__ T n a) (24 + 4)) (m5 : ¬ iw_ T (nb_ T n a) (wl__ T n a) (24 + 5)) (m7 : ¬ iw_ T (nb_ T n a) (wl__ T n a) (24 + 7)) (m9 : ¬ iw_ T (nb_ T n a) (wl__ T n a) (24 + 9)) (m11 : ¬ iw_ T (nb_ T n a) (wl__ T n a) (24 + 11)) (m12 : ¬ iw_ T (nb_ T n a) (wl__ T n a) (24 + 12)) : S_ MX9_line d bc bs Q 249 [(2, 196), (9, 0), (9, 0)] [] nN hc := by
  have hG := S.1.1
  have n4 := S.1.2.2.2.1
  have nb0 := nb_0 S
  have yc := ln_c P
  refine s_aload_n dX9_line_249 rfl ?_
  refine s_ldcS (j := 13) (z := 1000 + ((24 + 13 : Nat) : Int)) dX9_line_250 (by decide) rfl rfl (by decide) ?_
  refine s_callV (d' := d - 1) (bc' := 0) (bs' := 0) (as := [_]) dX9_line_252 vf_X9_130 (dd_ (by omega) (by decide)) ⟨Nat.zero_le _, Nat.zero_le _⟩ rfl rfl (Nat.le_of_ble_eq_true rfl) kl_7 rfl io_196 ?_
  refine k_isWord (j := 24 + 13) (by decide) (by omega) S (fun hhG1 ShG1 ehG1 => ?_)
  have S := ShG1
  have e16 := ehG1
  have hG1 := ShG1.1.1
  refine s_if_eq (tgt := 265) dX9_line_255 (by decide) (by first | exact hG1.2 _ _ | exact hG.2 _ _ | exact b01_in _ | assumption | exact ⟨by omega, by omega⟩) (fun c1 => ?_) (fun c1 => ?_)
  · have c1 := b01_0.mp c1
    refine s_aload_n dX9_line_265 rfl ?_
    refine s_ldcS (j := 15) (z := 1000 + ((24 + 15 : Nat) : Int)) dX9_line_266 (by decide) rfl rfl (by decide) ?_
    refine s_callV (d' := d - 1) (bc' := 0) (bs' := 0) (as := [_]) dX9_line_268 vf_X9_134 (dd_ (by omega) (by decide)) ⟨Nat.zero_le _, Nat.zero_le _⟩ rfl rfl (Nat.le_of_ble_eq_true rfl) kl_7 rfl io_196 ?_
    refine c_X9_takesWord (j := 24 + 15) (by decide) (by omega) S (fun cc2 h2 S2 e2 => ?_) (fun cc3 h3 S3 e3 => ?_)
    · have hG2 := S2.1.1
      have hG := hG2
      have S := S2
      have nb0 := nb_0 S
      have cw := cc2
      refine s_if_eq (tgt := 327) dX9_line_271 (by decide) (by first | exact hG2.2 _ _ | exact hG.2 _ _ | exact b01_in _ | assumption | exact ⟨by omega, by omega⟩) (fun c2 => ?_) (fun c2 => ?_)
      · exact absurd (show (1 : Int) = 0 from c2) (by decide)
      · refine s_aload_n dX9_line_274 rfl ?_
        refine s_iconst dX9_line_275 ?_
        refine s_callV (d' := d - 1) (bc' := 0) (bs' := 0) (as := [_]) dX9_line_276 vf_X9_236 (dd_ (by omega) (by decide)) ⟨Nat.zero_le _, Nat.zero_le _⟩ rfl rfl (Nat.le_of_ble_eq_true rfl) kl_7 rfl io_196 ?_
        refine c3_X9_thingHere (by omega) S P (fun cc4 h4 S4 e4 => ?_) (fun cc5 h5 W5 => ?_)
        · have hG4 := S4.1.1
          have hG := hG4
          have S := S4
          have nb0 := nb_0 S
          have mh3 := cc4
          have mh : okH T n (wn_ T n a) y := ⟨mh3.1, mh3.2.2.2 rfl⟩
          have tb := tT_bd y T n (wn_ T n a)
          have tb2 : 0 ≤ tT y T n (wn_ T n a) ∧ tT y T n (wn_ T n a) < 8 := by have q := mh.1; omega
          refine s_istore_n dX9_line_279 (by decide) rfl (L' := [_, _, _]) rfl ?_
          refine s_aload_n dX9_line_280 rfl ?_
          refine s_iconst dX9_line_281 ?_
          refine s_sipush dX9_line_282 (by decide) ?_
          refine s_callV (d' := d - 1) (bc' := 0) (bs' := 0) (as := [_, _]) dX9_line_285 vf_X9_229 (dd_ (by omega) (by decide)) ⟨Nat.zero_le _, Nat.zero_le _⟩ rfl rfl (Nat.le_of_ble_eq_true rfl) kl_7 rfl io_196 ?_
          refine c_X9_number (by omega) S ⟨by decide, by decide⟩ ⟨by decide, by decide⟩ (fun cc6 h6 S6 e6 m6 => ?_) (fun cc7 h7 v7 W7 hv7 => ?_)
          · have hG6 := S6.1.1
            have hG := hG6
            have S := S6
            have nb0 := nb_0 S
            have cn := cc6
            have e18 := m6
            have cnb := cc6.2
            refine s_istore_n dX9_line_288 (by decide) rfl (L' := [_, _, _]) rfl ?_
            refine s_aload_n dX9_line_289 rfl ?_
            refine s_getr dX9_line_290 fl_X9_43 kl_7 (by decide) rfl io_196 (z := 22) rfl (rf_7_22 hG6.1 io_196) (rk_7_22 io_196).1 ?_
            refine s_iconst dX9_line_293 ?_
            refine s_iconst dX9_line_294 ?_
            refine s_iload_n dX9_line_295 rfl ?_
            refine s_imul dX9_line_296 ?_
            refine s_iadd dX9_line_297 ?_
            refine s_iconst dX9_line_298 ?_
            refine s_iadd dX9_line_299 ?_
            refine s_aload_n dX9_line_300 rfl ?_
            refine s_callV (d' := d - 1) (bc' := 0) (bs' := 0) (as := []) dX9_line_301 vf_X9_114 (dd_ (by omega) (by decide)) ⟨Nat.zero_le _, Nat.zero_le _⟩ rfl rfl (Nat.le_of_ble_eq_true rfl) kl_7 rfl io_196 ?_
            refine c_X9_isWrong hG6 ?_
            refine s_if_eq (tgt := 322) dX9_line_304 (by decide) (by first | exact hG6.2 _ _ | exact hG.2 _ _ | exact b01_in _ | assumption | exact ⟨by omega, by omega⟩) (fun c3 => ?_) (fun c3 => ?_)
            · have c3 := b01_0.mp c3
              refine s_iload_n dX9_line_322 rfl ?_
              refine s_iastoreG dX9_line_323 (rk_7_22 io_196) (by omega) (by omega) hG6 (by first | exact hG6.2 _ _ | exact hG.2 _ _ | exact b01_in _ | assumption | exact ⟨by omega, by omega⟩) (fun hG8 => ?_)
              have P9 := ln_aw P S.2.1
              have cn2 := cn.2
              have YY : LY_ n T h (pChanged T n (wn_ T n a) y) _ := Or.inl (lx_o (b := 0) S hG8 (fun x k p q => hs_ne _ (by omega)) (by unfold pChanged; rw [iC_f (fun q => q mh), iC_f (fun q => q cn)]) (ln_row P9 (fun x k p q => hs_ne _ (by omega)) (row_put P9.2.1 (by omega) (by omega) (pm_t (v := 0) (j := tT y T n (wn_ T n a)) (by omega) (by omega) (by omega) (by omega))) (zf_fu (zf_z.mp P.2.2.2.2.2.2.1.1) (by unfold zok; omega))))
              have hp := pl_15 (y := y) cw
              refine s_goto (tgt := 393) dX9_line_324 (by decide) ?_
              refine s_aload_n dX9_line_393 rfl ?_
              refine s_callV (d' := d - 1) (bc' := 0) (bs' := 0) (as := []) dX9_line_394 vf_X9_263 (dd_ (by omega) (by decide)) ⟨Nat.zero_le _, Nat.zero_le _⟩ rfl rfl (Nat.le_of_ble_eq_true rfl) kl_7 rfl io_196 ?_
              refine st_X9 (by omega) hT YY (fun h9 Z9 => ?_)
              rw [← hp] at Z9
              have hG9 := Z9.1.1
              have k9 := k h9 Z9
              exact s_return dX9_line_397 rfl k9
            · exact absurd S.2.2.1 (b01_n.mp c3)
          · have hG7 := W7.1.1
            have hG := hG7
            have W := W7
            have cc := cc7
            have hv79 := hv7
            have hu : (pChanged T n (wn_ T n a) y).1 = nb_ T n (wn_ T n (wn_ T n a)) := by unfold pChanged; rw [iC_f (fun q => q mh), iC_t cc]
            refine s_istore_n dX9_line_288 (by decide) rfl (L' := [_, _, _]) rfl ?_
            refine s_aload_n dX9_line_289 rfl ?_
            refine s_getr dX9_line_290 fl_X9_43 kl_7 (by decide) rfl io_196 (z := 22) rfl (rf_7_22 hG7.1 io_196) (rk_7_22 io_196).1 ?_
            refine s_iconst dX9_line_293 ?_
            refine s_iconst dX9_line_294 ?_
            refine s_iload_n dX9_line_295 rfl ?_
            refine s_imul dX9_line_296 ?_
            refine s_iadd dX9_line_297 ?_
            refine s_iconst dX9_line_298 ?_
            refine s_iadd dX9_line_299 ?_
            refine s_aload_n dX9_line_300 rfl ?_
            refine s_callV (d' := d - 1) (bc' := 0) (bs' := 0) (as := []) dX9_line_301 vf_X9_114 (dd_ (by omega) (by decide)) ⟨Nat.zero_le _, Nat.zero_le _⟩ rfl rfl (Nat.le_of_ble_eq_true rfl) kl_7 rfl io_196 ?_
            refine c_X9_isWrong hG7 ?_
            refine s_if_eq (tgt := 322) dX9_line_304 (by decide) (by first | exact hG7.2 _ _ | exact hG.2 _ _ | exact b01_in _ | assumption | exact ⟨by omega, by omega⟩) (fun c4 => ?_) (fun c4 => ?_)
            · exact absurd (wr_ne W) (b01_0.mp c4)
            · have c4 := b01_n.mp c4
              refine s_aload_n dX9_line_307 rfl ?_
              refine s_getr dX9_line_308 fl_X9_43 kl_7 (by decide) rfl io_196 (z := 22) rfl (rf_7_22 hG7.1 io_196) (rk_7_22 io_196).1 ?_
              refine s_iconst dX9_line_311 ?_
              refine s_iconst dX9_line_312 ?_
              refine s_iload_n dX9_line_313 rfl ?_
              refine s_imul dX9_line_314 ?_
              refine s_iadd dX9_line_315 ?_
              refine s_iconst dX9_line_316 ?_
              refine s_iadd dX9_line_317 ?_
              refine s_iaload dX9_line_318 (rk_7_22 io_196) (by omega) (by omega) ?_
              refine s_goto (tgt := 323) dX9_line_319 (by decide) ?_
              refine s_iastoreG dX9_line_323 (rk_7_22 io_196) (by omega) (by omega) hG7 (by first | exact hG7.2 _ _ | exact hG.2 _ _ | exact b01_in _ | assumption | exact ⟨by omega, by omega⟩) (fun hG10 => ?_)
              have X9 := lx_w W hu
              have YY : LY_ n T h (pChanged T n (wn_ T n a) y) _ := Or.inl ⟨⟨hG10, (hs_ne _ (by omega)).trans X9.1.2.1, by rw [hs_ne _ (by omega)]; exact X9.1.2.2.1, X9.1.2.2.2.1, fun k p q => (hs_ne _ (by omega)).trans (X9.1.2.2.2.2 k p q)⟩, fun x k p q => (hs_ne _ (by omega)).trans (X9.2.1 x k p q), by
                rcases X9.2.2 with q | q
                · exact absurd (hu.symm.trans q.1) (by omega)
                · exact Or.inr ⟨q.1, (hs_ne _ (by omega)).trans q.2.1, q.2.2⟩⟩
              have hp := pl_15 (y := y) cw
              refine s_goto (tgt := 393) dX9_line_324 (by decide) ?_
              refine s_aload_n dX9_line_393 rfl ?_
              refine s_callV (d' := d - 1) (bc' := 0) (bs' := 0) (as := []) dX9_line_394 vf_X9_263 (dd_ (by omega) (by decide)) ⟨Nat.zero_le _, Nat.zero_le _⟩ rfl rfl (Nat.le_of_ble_eq_true rfl) kl_7 rfl io_196 ?_
              refine st_X9 (by omega) hT YY (fun h9 Z9 => ?_)
              rw [← hp] at Z9
              have hG11 := Z9.1.1
              have k9 := k h9 Z9
              exact s_return dX9_line_397 rfl k9
        · have hG5 := W5.1.1
          have hG := hG5
          have W := W5
          have cc := cc5
          have nmh : ¬ okH T n (wn_ T n a) y := fun q => cc ⟨q.1, fun e => absurd e (by decide), fun e => absurd e (by decide), fun _ => q.2⟩
          have hu : (pChanged T n (wn_ T n a) y).1 = nb_ T n (wn_ T n a) := by unfold pChanged; rw [iC_t nmh]
          refine s_istore_n dX9_line_279 (by decide) rfl (L' := [_, _, _]) rfl ?_
          refine s_aload_n dX9_line_280 rfl ?_
          refine s_iconst dX9_line_281 ?_
          refine s_sipush dX9_line_282 (by decide) ?_
          refine s_callV (d' := d - 1) (bc' := 0) (bs' := 0) (as := [_, _]) dX9_line_285 vf_X9_229 (dd_ (by omega) (by decide)) ⟨Nat.zero_le _, Nat.zero_le _⟩ rfl rfl (Nat.le_of_ble_eq_true rfl) kl_7 rfl io_196 ?_
          refine kw_X9_number (by omega) W ?_
          refine s_istore_n dX9_line_288 (by decide) rfl (L' := [_, _, _]) rfl ?_
          refine s_aload_n dX9_line_289 rfl ?_
          refine s_getr dX9_line_290 fl_X9_43 kl_7 (by decide) rfl io_196 (z := 22) rfl (rf_7_22 hG5.1 io_196) (rk_7_22 io_196).1 ?_
          refine s_iconst dX9_line_293 ?_
          refine s_iconst dX9_line_294 ?_
          refine s_iload_n dX9_line_295 rfl ?_
          refine s_imul dX9_line_296 ?_
          refine s_iadd dX9_line_297 ?_
          refine s_iconst dX9_line_298 ?_
          refine s_iadd dX9_line_299 ?_
          refine s_aload_n dX9_line_300 rfl ?_
          refine s_callV (d' := d - 1) (bc' := 0) (bs' := 0) (as := []) dX9_line_301 vf_X9_114 (dd_ (by omega) (by decide)) ⟨Nat.zero_le _, Nat.zero_le _⟩ rfl rfl (Nat.le_of_ble_eq_true rfl) kl_7 rfl io_196 ?_
          refine c_X9_isWrong hG5 ?_
          refine s_if_eq (tgt := 322) dX9_line_304 (by decide) (by first | exact hG5.2 _ _ | exact hG.2 _ _ | exact b01_in _ | assumption | exact ⟨by omega, by omega⟩) (fun c5 => ?_) (fun c5 => ?_)
          · exact absurd (wr_ne W) (b01_0.mp c5)
          · have c5 := b01_n.mp c5
            refine s_aload_n dX9_line_307 rfl ?_
            refine s_getr dX9_line_308 fl_X9_43 kl_7 (by decide) rfl io_196 (z := 22) rfl (rf_7_22 hG5.1 io_196) (rk_7_22 io_196).1 ?_
            refine s_iconst dX9_line_311 ?_
            refine s_iconst dX9_line_312 ?_
            refine s_iload_n dX9_line_313 rfl ?_
            refine s_imul dX9_line_314 ?_
            refine s_iadd dX9_line_315 ?_
            refine s_iconst dX9_line_316 ?_
            refine s_iadd dX9_line_317 ?_
            refine s_iaload dX9_line_318 (rk_7_22 io_196) (by omega) (by omega) ?_
            refine s_goto (tgt := 323) dX9_line_319 (by decide) ?_
            refine s_iastoreG dX9_line_323 (rk_7_22 io_196) (by omega) (by omega) hG5 (by first | exact hG5.2 _ _ | exact hG.2 _ _ | exact b01_in _ | assumption | exact ⟨by omega, by omega⟩) (fun hG12 => ?_)
            have X9 := lx_w W hu
            have YY : LY_ n T h (pChanged T n (wn_ T n a) y) _ := Or.inl ⟨⟨hG12, (hs_ne _ (by omega)).trans X9.1.2.1, by rw [hs_ne _ (by omega)]; exact X9.1.2.2.1, X9.1.2.2.2.1, fun k p q => (hs_ne _ (by omega)).trans (X9.1.2.2.2.2 k p q)⟩, fun x k p q => (hs_ne _ (by omega)).trans (X9.2.1 x k p q), by
              rcases X9.2.2 with q | q
              · exact absurd (hu.symm.trans q.1) (by omega)
              · exact Or.inr ⟨q.1, (hs_ne _ (by omega)).trans q.2.1, q.2.2⟩⟩
            have hp := pl_15 (y := y) cw
            refine s_goto (tgt := 393) dX9_line_324 (by decide) ?_
            refine s_aload_n dX9_line_393 rfl ?_
            refine s_callV (d' := d - 1) (bc' := 0) (bs' := 0) (as := []) dX9_line_394 vf_X9_263 (dd_ (by omega) (by decide)) ⟨Nat.zero_le _, Nat.zero_le _⟩ rfl rfl (Nat.le_of_ble_eq_true rfl) kl_7 rfl io_196 ?_
            refine st_X9 (by omega) hT YY (fun h9 Z9 => ?_)
            rw [← hp] at Z9
            have hG13 := Z9.1.1
            have k9 := k h9 Z9
            exact s_return dX9_line_397 rfl k9
    · have hG3 := S3.1.1
      have hG := hG3
      have S := S3
      have nb0 := nb_0 S
      have nw15 := cc3
      have e16 := e3
      refine s_if_eq (tgt := 327) dX9_line_271 (by decide) (by first | exact hG3.2 _ _ | exact hG.2 _ _ | exact b01_in _ | assumption | exact ⟨by omega, by omega⟩) (fun c6 => ?_) (fun c6 => ?_)
      · exact ln_327 hd S e16 hT P k (by assumption) (by assumption) (by assumption) (by assumption) (by assumption) (by assumption) (by assumption) (by assumption) (by assumption) (by assumption) (by assumption) (by assumption) (by assumption) (by assumption)
      · exact absurd rfl c6
  · have c1 := b01_n.mp c1
    refine s_aload_n dX9_line_258 rfl ?_
    refine s_callV (d' := d - 1) (bc' := 0) (bs' := 0) (as := []) dX9_line_259 vf_X9_254 (dd_ (by omega) (by decide)) ⟨Nat.zero_le _, Nat.zero_le _⟩ rfl rfl (Nat.le_of_ble_eq_true rfl) kl_7 rfl io_196 ?_
    have fl0 := aw_fl S.2.1
    have Pb := ln_aw P S.2.1
    have Sb := ok_re S
    refine c_X9_soldLine (by omega) Sb Pb (by assumption) (fun h14 X14 => ?_)
    have hG14 := X14.1.1
    have YY : LY_ n T h _ h14 := Or.inl (lx_tr fl0 X14)
    have hp := pl_13 (y := y) (by assumption : iw_ T (nb_ T n a) (wl__ T n a) (24 + 13))
    refine s_goto (tgt := 393) dX9_line_262 (by decide) ?_
    refine s_aload_n dX9_line_393 rfl ?_
    refine s_callV (d' := d - 1) (bc' := 0) (bs' := 0) (as := []) dX9_line_394 vf_X9_263 (dd_ (by omega) (by decide)) ⟨Nat.zero_le _, Nat.zero_le _⟩ rfl rfl (Nat.le_of_ble_eq_true rfl) kl_7 rfl io_196 ?_
    refine st_X9 (by omega) hT YY (fun h9 Z9 => ?_)
    rw [← hp] at Z9
    have hG15 := Z9.1.1
    have k9 := k h9 Z9
    exact s_return dX9_line_397 rfl k9
set_option maxRecDepth 100000 in
set_option maxHeartbeats 4000000 in
theorem ln_166 {hc : PH} (hd : 10 ≤ d) (S : OK9 n T h a hc) (e16 : hc 196 16 = nb_ T n a) (hT : ∀ k : Int, 0 ≤ k → k < n → -128 ≤ T k ∧ T k < 128) (P : LN_ y h) (k : ∀ h1 : PH, LZ_ n T h (pLine T n a y) h1 → Q.1 none nN h1) (m0 : ¬ iw_ T (nb_ T n a) (wl__ T n a) (24 + 0)) (m1 : ¬ iw_ T (nb_ T n a) (wl__ T n a) (24 + 1)) (m2 : ¬ iw_ T (nb_ T n a) (wl__ T n a) (24 + 2)) (m19 : ¬ iw_ T (nb_ T n a) (wl__ T n a) (24 + 19)) (m20 : ¬ iw_ T (nb_ T n a) (wl__ T n a) (24 + 20)) (m3 : ¬ iw_ T (nb_ T n a) (wl__ T n a) (24 + 3)) (m4 : ¬ iw_ T (nb_ T n a) (wl__ T n a) (24 + 4)) (m5 : ¬ iw_ T (nb_ T n a) (wl__ T n a) (24 + 5)) : S_ MX9_line d bc bs Q 166 [(2, 196), (9, 0), (9, 0)] [] nN hc := by
  have hG := S.1.1
  have n4 := S.1.2.2.2.1
  have nb0 := nb_0 S
  have yc := ln_c P
  refine s_aload_n dX9_line_166 rfl ?_
  refine s_ldcS (j := 7) (z := 1000 + ((24 + 7 : Nat) : Int)) dX9_line_167 (by decide) rfl rfl (by decide) ?_
  refine s_callV (d' := d - 1) (bc' := 0) (bs' := 0) (as := [_]) dX9_line_169 vf_X9_130 (dd_ (by omega) (by decide)) ⟨Nat.zero_le _, Nat.zero_le _⟩ rfl rfl (Nat.le_of_ble_eq_true rfl) kl_7 rfl io_196 ?_
  refine k_isWord (j := 24 + 7) (by decide) (by omega) S (fun hhG1 ShG1 ehG1 => ?_)
  have S := ShG1
  have e16 := ehG1
  have hG1 := ShG1.1.1
  refine s_if_ne (tgt := 202) dX9_line_172 (by decide) (by first | exact hG1.2 _ _ | exact hG.2 _ _ | exact b01_in _ | assumption | exact ⟨by omega, by omega⟩) (fun c1 => ?_) (fun c1 => ?_)
  · have c1 := b01_n.mp c1
    refine s_aload_n dX9_line_202 rfl ?_
    refine s_aload_n dX9_line_203 rfl ?_
    refine s_ldcS (j := 7) (z := 1000 + ((24 + 7 : Nat) : Int)) dX9_line_204 (by decide) rfl rfl (by decide) ?_
    refine s_callV (d' := d - 1) (bc' := 0) (bs' := 0) (as := [_]) dX9_line_206 vf_X9_130 (dd_ (by omega) (by decide)) ⟨Nat.zero_le _, Nat.zero_le _⟩ rfl rfl (Nat.le_of_ble_eq_true rfl) kl_7 rfl io_196 ?_
    refine k_isWord (j := 24 + 7) (by decide) (by omega) S (fun hhG2 ShG2 ehG2 => ?_)
    have S := ShG2
    have e16 := ehG2
    have hG2 := ShG2.1.1
    refine s_if_eq (tgt := 216) dX9_line_209 (by decide) (by first | exact hG2.2 _ _ | exact hG.2 _ _ | exact b01_in _ | assumption | exact ⟨by omega, by omega⟩) (fun c2 => ?_) (fun c2 => ?_)
    · have c2 := b01_0.mp c2
      refine s_aload_n dX9_line_216 rfl ?_
      refine s_ldcS (j := 9) (z := 1000 + ((24 + 9 : Nat) : Int)) dX9_line_217 (by decide) rfl rfl (by decide) ?_
      refine s_callV (d' := d - 1) (bc' := 0) (bs' := 0) (as := [_]) dX9_line_219 vf_X9_130 (dd_ (by omega) (by decide)) ⟨Nat.zero_le _, Nat.zero_le _⟩ rfl rfl (Nat.le_of_ble_eq_true rfl) kl_7 rfl io_196 ?_
      refine k_isWord (j := 24 + 9) (by decide) (by omega) S (fun hhG3 ShG3 ehG3 => ?_)
      have S := ShG3
      have e16 := ehG3
      have hG3 := ShG3.1.1
      refine s_if_eq (tgt := 229) dX9_line_222 (by decide) (by first | exact hG3.2 _ _ | exact hG.2 _ _ | exact b01_in _ | assumption | exact ⟨by omega, by omega⟩) (fun c3 => ?_) (fun c3 => ?_)
      · have c3 := b01_0.mp c3
        refine s_aload_n dX9_line_229 rfl ?_
        refine s_ldcS (j := 11) (z := 1000 + ((24 + 11 : Nat) : Int)) dX9_line_230 (by decide) rfl rfl (by decide) ?_
        refine s_callV (d' := d - 1) (bc' := 0) (bs' := 0) (as := [_]) dX9_line_232 vf_X9_130 (dd_ (by omega) (by decide)) ⟨Nat.zero_le _, Nat.zero_le _⟩ rfl rfl (Nat.le_of_ble_eq_true rfl) kl_7 rfl io_196 ?_
        refine k_isWord (j := 24 + 11) (by decide) (by omega) S (fun hhG4 ShG4 ehG4 => ?_)
        have S := ShG4
        have e16 := ehG4
        have hG4 := ShG4.1.1
        refine s_if_eq (tgt := 242) dX9_line_235 (by decide) (by first | exact hG4.2 _ _ | exact hG.2 _ _ | exact b01_in _ | assumption | exact ⟨by omega, by omega⟩) (fun c4 => ?_) (fun c4 => ?_)
        · have c4 := b01_0.mp c4
          refine s_iconst dX9_line_242 ?_
          refine s_callV (d' := d - 1) (bc' := 0) (bs' := 0) (as := [_]) dX9_line_243 vf_X9_251 (dd_ (by omega) (by decide)) ⟨Nat.zero_le _, Nat.zero_le _⟩ rfl rfl (Nat.le_of_ble_eq_true rfl) kl_7 rfl io_196 ?_
          have cw9 : iw_ T (nb_ T n a) (wl__ T n a) (24 + 12) := by
            first
              | assumption
              | exact absurd (by assumption : iw_ T (nb_ T n a) (wl__ T n a) (24 + 7)) (by assumption)
              | exact absurd (by assumption : iw_ T (nb_ T n a) (wl__ T n a) (24 + 9)) (by assumption)
              | exact absurd (by assumption : iw_ T (nb_ T n a) (wl__ T n a) (24 + 11)) (by assumption)
          have fl0 := aw_fl S.2.1
          have Pb := ln_aw P S.2.1
          have Sb := ok_re S
          refine c3_X9_giftLine (by omega) Sb e16 Pb cw9 (fun h5 X5 => ?_)
          have YY : LY_ n T h _ h5 := ly_tr fl0 X5
          have hG5 : G h5 := by rcases YY with q | q <;> exact q.1.1
          have hp := pl_12 (y := y) (by assumption : iw_ T (nb_ T n a) (wl__ T n a) (24 + 12))
          refine s_goto (tgt := 393) dX9_line_246 (by decide) ?_
          refine s_aload_n dX9_line_393 rfl ?_
          refine s_callV (d' := d - 1) (bc' := 0) (bs' := 0) (as := []) dX9_line_394 vf_X9_263 (dd_ (by omega) (by decide)) ⟨Nat.zero_le _, Nat.zero_le _⟩ rfl rfl (Nat.le_of_ble_eq_true rfl) kl_7 rfl io_196 ?_
          refine st_X9 (by omega) hT YY (fun h9 Z9 => ?_)
          rw [← hp] at Z9
          have hG6 := Z9.1.1
          have k9 := k h9 Z9
          exact s_return dX9_line_397 rfl k9
        · have c4 := b01_n.mp c4
          refine s_iconst dX9_line_238 ?_
          refine s_goto (tgt := 243) dX9_line_239 (by decide) ?_
          refine s_callV (d' := d - 1) (bc' := 0) (bs' := 0) (as := [_]) dX9_line_243 vf_X9_251 (dd_ (by omega) (by decide)) ⟨Nat.zero_le _, Nat.zero_le _⟩ rfl rfl (Nat.le_of_ble_eq_true rfl) kl_7 rfl io_196 ?_
          have cw9 : iw_ T (nb_ T n a) (wl__ T n a) (24 + 11) := by
            first
              | assumption
              | exact absurd (by assumption : iw_ T (nb_ T n a) (wl__ T n a) (24 + 7)) (by assumption)
              | exact absurd (by assumption : iw_ T (nb_ T n a) (wl__ T n a) (24 + 9)) (by assumption)
              | exact absurd (by assumption : iw_ T (nb_ T n a) (wl__ T n a) (24 + 11)) (by assumption)
          have fl0 := aw_fl S.2.1
          have Pb := ln_aw P S.2.1
          have Sb := ok_re S
          refine c2_X9_giftLine (by omega) Sb e16 Pb cw9 (fun h7 X7 => ?_)
          have YY : LY_ n T h _ h7 := ly_tr fl0 X7
          have hG7 : G h7 := by rcases YY with q | q <;> exact q.1.1
          have hp := pl_11 (y := y) (by assumption : iw_ T (nb_ T n a) (wl__ T n a) (24 + 11))
          refine s_goto (tgt := 393) dX9_line_246 (by decide) ?_
          refine s_aload_n dX9_line_393 rfl ?_
          refine s_callV (d' := d - 1) (bc' := 0) (bs' := 0) (as := []) dX9_line_394 vf_X9_263 (dd_ (by omega) (by decide)) ⟨Nat.zero_le _, Nat.zero_le _⟩ rfl rfl (Nat.le_of_ble_eq_true rfl) kl_7 rfl io_196 ?_
          refine st_X9 (by omega) hT YY (fun h9 Z9 => ?_)
          rw [← hp] at Z9
          have hG8 := Z9.1.1
          have k9 := k h9 Z9
          exact s_return dX9_line_397 rfl k9
      · have c3 := b01_n.mp c3
        refine s_iconst dX9_line_225 ?_
        refine s_goto (tgt := 243) dX9_line_226 (by decide) ?_
        refine s_callV (d' := d - 1) (bc' := 0) (bs' := 0) (as := [_]) dX9_line_243 vf_X9_251 (dd_ (by omega) (by decide)) ⟨Nat.zero_le _, Nat.zero_le _⟩ rfl rfl (Nat.le_of_ble_eq_true rfl) kl_7 rfl io_196 ?_
        have cw9 : iw_ T (nb_ T n a) (wl__ T n a) (24 + 9) := by
          first
            | assumption
            | exact absurd (by assumption : iw_ T (nb_ T n a) (wl__ T n a) (24 + 7)) (by assumption)
            | exact absurd (by assumption : iw_ T (nb_ T n a) (wl__ T n a) (24 + 9)) (by assumption)
            | exact absurd (by assumption : iw_ T (nb_ T n a) (wl__ T n a) (24 + 11)) (by assumption)
        have fl0 := aw_fl S.2.1
        have Pb := ln_aw P S.2.1
        have Sb := ok_re S
        refine c1_X9_giftLine (by omega) Sb e16 Pb cw9 (fun h9 X9 => ?_)
        have YY : LY_ n T h _ h9 := ly_tr fl0 X9
        have hG9 : G h9 := by rcases YY with q | q <;> exact q.1.1
        have hp := pl_9 (y := y) (by assumption : iw_ T (nb_ T n a) (wl__ T n a) (24 + 9))
        refine s_goto (tgt := 393) dX9_line_246 (by decide) ?_
        refine s_aload_n dX9_line_393 rfl ?_
        refine s_callV (d' := d - 1) (bc' := 0) (bs' := 0) (as := []) dX9_line_394 vf_X9_263 (dd_ (by omega) (by decide)) ⟨Nat.zero_le _, Nat.zero_le _⟩ rfl rfl (Nat.le_of_ble_eq_true rfl) kl_7 rfl io_196 ?_
        refine st_X9 (by omega) hT YY (fun h9 Z9 => ?_)
        rw [← hp] at Z9
        have hG10 := Z9.1.1
        have k9 := k h9 Z9
        exact s_return dX9_line_397 rfl k9
    · have c2 := b01_n.mp c2
      refine s_iconst dX9_line_212 ?_
      refine s_goto (tgt := 243) dX9_line_213 (by decide) ?_
      refine s_callV (d' := d - 1) (bc' := 0) (bs' := 0) (as := [_]) dX9_line_243 vf_X9_251 (dd_ (by omega) (by decide)) ⟨Nat.zero_le _, Nat.zero_le _⟩ rfl rfl (Nat.le_of_ble_eq_true rfl) kl_7 rfl io_196 ?_
      have cw9 : iw_ T (nb_ T n a) (wl__ T n a) (24 + 7) := by
        first
          | assumption
          | exact absurd (by assumption : iw_ T (nb_ T n a) (wl__ T n a) (24 + 7)) (by assumption)
          | exact absurd (by assumption : iw_ T (nb_ T n a) (wl__ T n a) (24 + 9)) (by assumption)
          | exact absurd (by assumption : iw_ T (nb_ T n a) (wl__ T n a) (24 + 11)) (by assumption)
      have fl0 := aw_fl S.2.1
      have Pb := ln_aw P S.2.1
      have Sb := ok_re S
      refine c0_X9_giftLine (by omega) Sb e16 Pb cw9 (fun h11 X11 => ?_)
      have YY : LY_ n T h _ h11 := ly_tr fl0 X11
      have hG11 : G h11 := by rcases YY with q | q <;> exact q.1.1
      have hp := pl_7 (y := y) (by assumption : iw_ T (nb_ T n a) (wl__ T n a) (24 + 7))
      refine s_goto (tgt := 393) dX9_line_246 (by decide) ?_
      refine s_aload_n dX9_line_393 rfl ?_
      refine s_callV (d' := d - 1) (bc' := 0) (bs' := 0) (as := []) dX9_line_394 vf_X9_263 (dd_ (by omega) (by decide)) ⟨Nat.zero_le _, Nat.zero_le _⟩ rfl rfl (Nat.le_of_ble_eq_true rfl) kl_7 rfl io_196 ?_
      refine st_X9 (by omega) hT YY (fun h9 Z9 => ?_)
      rw [← hp] at Z9
      have hG12 := Z9.1.1
      have k9 := k h9 Z9
      exact s_return dX9_line_397 rfl k9
  · have c1 := b01_0.mp c1
    refine s_aload_n dX9_line_175 rfl ?_
    refine s_ldcS (j := 9) (z := 1000 + ((24 + 9 : Nat) : Int)) dX9_line_176 (by decide) rfl rfl (by decide) ?_
    refine s_callV (d' := d - 1) (bc' := 0) (bs' := 0) (as := [_]) dX9_line_178 vf_X9_130 (dd_ (by omega) (by decide)) ⟨Nat.zero_le _, Nat.zero_le _⟩ rfl rfl (Nat.le_of_ble_eq_true rfl) kl_7 rfl io_196 ?_
    refine k_isWord (j := 24 + 9) (by decide) (by omega) S (fun hhG13 ShG13 ehG13 => ?_)
    have S := ShG13
    have e16 := ehG13
    have hG13 := ShG13.1.1
    refine s_if_ne (tgt := 202) dX9_line_181 (by decide) (by first | exact hG13.2 _ _ | exact hG.2 _ _ | exact b01_in _ | assumption | exact ⟨by omega, by omega⟩) (fun c5 => ?_) (fun c5 => ?_)
    · have c5 := b01_n.mp c5
      refine s_aload_n dX9_line_202 rfl ?_
      refine s_aload_n dX9_line_203 rfl ?_
      refine s_ldcS (j := 7) (z := 1000 + ((24 + 7 : Nat) : Int)) dX9_line_204 (by decide) rfl rfl (by decide) ?_
      refine s_callV (d' := d - 1) (bc' := 0) (bs' := 0) (as := [_]) dX9_line_206 vf_X9_130 (dd_ (by omega) (by decide)) ⟨Nat.zero_le _, Nat.zero_le _⟩ rfl rfl (Nat.le_of_ble_eq_true rfl) kl_7 rfl io_196 ?_
      refine k_isWord (j := 24 + 7) (by decide) (by omega) S (fun hhG14 ShG14 ehG14 => ?_)
      have S := ShG14
      have e16 := ehG14
      have hG14 := ShG14.1.1
      refine s_if_eq (tgt := 216) dX9_line_209 (by decide) (by first | exact hG14.2 _ _ | exact hG.2 _ _ | exact b01_in _ | assumption | exact ⟨by omega, by omega⟩) (fun c6 => ?_) (fun c6 => ?_)
      · have c6 := b01_0.mp c6
        refine s_aload_n dX9_line_216 rfl ?_
        refine s_ldcS (j := 9) (z := 1000 + ((24 + 9 : Nat) : Int)) dX9_line_217 (by decide) rfl rfl (by decide) ?_
        refine s_callV (d' := d - 1) (bc' := 0) (bs' := 0) (as := [_]) dX9_line_219 vf_X9_130 (dd_ (by omega) (by decide)) ⟨Nat.zero_le _, Nat.zero_le _⟩ rfl rfl (Nat.le_of_ble_eq_true rfl) kl_7 rfl io_196 ?_
        refine k_isWord (j := 24 + 9) (by decide) (by omega) S (fun hhG15 ShG15 ehG15 => ?_)
        have S := ShG15
        have e16 := ehG15
        have hG15 := ShG15.1.1
        refine s_if_eq (tgt := 229) dX9_line_222 (by decide) (by first | exact hG15.2 _ _ | exact hG.2 _ _ | exact b01_in _ | assumption | exact ⟨by omega, by omega⟩) (fun c7 => ?_) (fun c7 => ?_)
        · have c7 := b01_0.mp c7
          refine s_aload_n dX9_line_229 rfl ?_
          refine s_ldcS (j := 11) (z := 1000 + ((24 + 11 : Nat) : Int)) dX9_line_230 (by decide) rfl rfl (by decide) ?_
          refine s_callV (d' := d - 1) (bc' := 0) (bs' := 0) (as := [_]) dX9_line_232 vf_X9_130 (dd_ (by omega) (by decide)) ⟨Nat.zero_le _, Nat.zero_le _⟩ rfl rfl (Nat.le_of_ble_eq_true rfl) kl_7 rfl io_196 ?_
          refine k_isWord (j := 24 + 11) (by decide) (by omega) S (fun hhG16 ShG16 ehG16 => ?_)
          have S := ShG16
          have e16 := ehG16
          have hG16 := ShG16.1.1
          refine s_if_eq (tgt := 242) dX9_line_235 (by decide) (by first | exact hG16.2 _ _ | exact hG.2 _ _ | exact b01_in _ | assumption | exact ⟨by omega, by omega⟩) (fun c8 => ?_) (fun c8 => ?_)
          · have c8 := b01_0.mp c8
            refine s_iconst dX9_line_242 ?_
            refine s_callV (d' := d - 1) (bc' := 0) (bs' := 0) (as := [_]) dX9_line_243 vf_X9_251 (dd_ (by omega) (by decide)) ⟨Nat.zero_le _, Nat.zero_le _⟩ rfl rfl (Nat.le_of_ble_eq_true rfl) kl_7 rfl io_196 ?_
            have cw9 : iw_ T (nb_ T n a) (wl__ T n a) (24 + 12) := by
              first
                | assumption
                | exact absurd (by assumption : iw_ T (nb_ T n a) (wl__ T n a) (24 + 7)) (by assumption)
                | exact absurd (by assumption : iw_ T (nb_ T n a) (wl__ T n a) (24 + 9)) (by assumption)
                | exact absurd (by assumption : iw_ T (nb_ T n a) (wl__ T n a) (24 + 11)) (by assumption)
            have fl0 := aw_fl S.2.1
            have Pb := ln_aw P S.2.1
            have Sb := ok_re S
            refine c3_X9_giftLine (by omega) Sb e16 Pb cw9 (fun h17 X17 => ?_)
            have YY : LY_ n T h _ h17 := ly_tr fl0 X17
            have hG17 : G h17 := by rcases YY with q | q <;> exact q.1.1
            have hp := pl_12 (y := y) (by assumption : iw_ T (nb_ T n a) (wl__ T n a) (24 + 12))
            refine s_goto (tgt := 393) dX9_line_246 (by decide) ?_
            refine s_aload_n dX9_line_393 rfl ?_
            refine s_callV (d' := d - 1) (bc' := 0) (bs' := 0) (as := []) dX9_line_394 vf_X9_263 (dd_ (by omega) (by decide)) ⟨Nat.zero_le _, Nat.zero_le _⟩ rfl rfl (Nat.le_of_ble_eq_true rfl) kl_7 rfl io_196 ?_
            refine st_X9 (by omega) hT YY (fun h9 Z9 => ?_)
            rw [← hp] at Z9
            have hG18 := Z9.1.1
            have k9 := k h9 Z9
            exact s_return dX9_line_397 rfl k9
          · have c8 := b01_n.mp c8
            refine s_iconst dX9_line_238 ?_
            refine s_goto (tgt := 243) dX9_line_239 (by decide) ?_
            refine s_callV (d' := d - 1) (bc' := 0) (bs' := 0) (as := [_]) dX9_line_243 vf_X9_251 (dd_ (by omega) (by decide)) ⟨Nat.zero_le _, Nat.zero_le _⟩ rfl rfl (Nat.le_of_ble_eq_true rfl) kl_7 rfl io_196 ?_
            have cw9 : iw_ T (nb_ T n a) (wl__ T n a) (24 + 11) := by
              first
                | assumption
                | exact absurd (by assumption : iw_ T (nb_ T n a) (wl__ T n a) (24 + 7)) (by assumption)
                | exact absurd (by assumption : iw_ T (nb_ T n a) (wl__ T n a) (24 + 9)) (by assumption)
                | exact absurd (by assumption : iw_ T (nb_ T n a) (wl__ T n a) (24 + 11)) (by assumption)
            have fl0 := aw_fl S.2.1
            have Pb := ln_aw P S.2.1
            have Sb := ok_re S
            refine c2_X9_giftLine (by omega) Sb e16 Pb cw9 (fun h19 X19 => ?_)
            have YY : LY_ n T h _ h19 := ly_tr fl0 X19
            have hG19 : G h19 := by rcases YY with q | q <;> exact q.1.1
            have hp := pl_11 (y := y) (by assumption : iw_ T (nb_ T n a) (wl__ T n a) (24 + 11))
            refine s_goto (tgt := 393) dX9_line_246 (by decide) ?_
            refine s_aload_n dX9_line_393 rfl ?_
            refine s_callV (d' := d - 1) (bc' := 0) (bs' := 0) (as := []) dX9_line_394 vf_X9_263 (dd_ (by omega) (by decide)) ⟨Nat.zero_le _, Nat.zero_le _⟩ rfl rfl (Nat.le_of_ble_eq_true rfl) kl_7 rfl io_196 ?_
            refine st_X9 (by omega) hT YY (fun h9 Z9 => ?_)
            rw [← hp] at Z9
            have hG20 := Z9.1.1
            have k9 := k h9 Z9
            exact s_return dX9_line_397 rfl k9
        · have c7 := b01_n.mp c7
          refine s_iconst dX9_line_225 ?_
          refine s_goto (tgt := 243) dX9_line_226 (by decide) ?_
          refine s_callV (d' := d - 1) (bc' := 0) (bs' := 0) (as := [_]) dX9_line_243 vf_X9_251 (dd_ (by omega) (by decide)) ⟨Nat.zero_le _, Nat.zero_le _⟩ rfl rfl (Nat.le_of_ble_eq_true rfl) kl_7 rfl io_196 ?_
          have cw9 : iw_ T (nb_ T n a) (wl__ T n a) (24 + 9) := by
            first
              | assumption
              | exact absurd (by assumption : iw_ T (nb_ T n a) (wl__ T n a) (24 + 7)) (by assumption)
              | exact absurd (by assumption : iw_ T (nb_ T n a) (wl__ T n a) (24 + 9)) (by assumption)
              | exact absurd (by assumption : iw_ T (nb_ T n a) (wl__ T n a) (24 + 11)) (by assumption)
          have fl0 := aw_fl S.2.1
          have Pb := ln_aw P S.2.1
          have Sb := ok_re S
          refine c1_X9_giftLine (by omega) Sb e16 Pb cw9 (fun h21 X21 => ?_)
          have YY : LY_ n T h _ h21 := ly_tr fl0 X21
          have hG21 : G h21 := by rcases YY with q | q <;> exact q.1.1
          have hp := pl_9 (y := y) (by assumption : iw_ T (nb_ T n a) (wl__ T n a) (24 + 9))
          refine s_goto (tgt := 393) dX9_line_246 (by decide) ?_
          refine s_aload_n dX9_line_393 rfl ?_
          refine s_callV (d' := d - 1) (bc' := 0) (bs' := 0) (as := []) dX9_line_394 vf_X9_263 (dd_ (by omega) (by decide)) ⟨Nat.zero_le _, Nat.zero_le _⟩ rfl rfl (Nat.le_of_ble_eq_true rfl) kl_7 rfl io_196 ?_
          refine st_X9 (by omega) hT YY (fun h9 Z9 => ?_)
          rw [← hp] at Z9
          have hG22 := Z9.1.1
          have k9 := k h9 Z9
          exact s_return dX9_line_397 rfl k9
      · have c6 := b01_n.mp c6
        refine s_iconst dX9_line_212 ?_
        refine s_goto (tgt := 243) dX9_line_213 (by decide) ?_
        refine s_callV (d' := d - 1) (bc' := 0) (bs' := 0) (as := [_]) dX9_line_243 vf_X9_251 (dd_ (by omega) (by decide)) ⟨Nat.zero_le _, Nat.zero_le _⟩ rfl rfl (Nat.le_of_ble_eq_true rfl) kl_7 rfl io_196 ?_
        have cw9 : iw_ T (nb_ T n a) (wl__ T n a) (24 + 7) := by
          first
            | assumption
            | exact absurd (by assumption : iw_ T (nb_ T n a) (wl__ T n a) (24 + 7)) (by assumption)
            | exact absurd (by assumption : iw_ T (nb_ T n a) (wl__ T n a) (24 + 9)) (by assumption)
            | exact absurd (by assumption : iw_ T (nb_ T n a) (wl__ T n a) (24 + 11)) (by assumption)
        have fl0 := aw_fl S.2.1
        have Pb := ln_aw P S.2.1
        have Sb := ok_re S
        refine c0_X9_giftLine (by omega) Sb e16 Pb cw9 (fun h23 X23 => ?_)
        have YY : LY_ n T h _ h23 := ly_tr fl0 X23
        have hG23 : G h23 := by rcases YY with q | q <;> exact q.1.1
        have hp := pl_7 (y := y) (by assumption : iw_ T (nb_ T n a) (wl__ T n a) (24 + 7))
        refine s_goto (tgt := 393) dX9_line_246 (by decide) ?_
        refine s_aload_n dX9_line_393 rfl ?_
        refine s_callV (d' := d - 1) (bc' := 0) (bs' := 0) (as := []) dX9_line_394 vf_X9_263 (dd_ (by omega) (by decide)) ⟨Nat.zero_le _, Nat.zero_le _⟩ rfl rfl (Nat.le_of_ble_eq_true rfl) kl_7 rfl io_196 ?_
        refine st_X9 (by omega) hT YY (fun h9 Z9 => ?_)
        rw [← hp] at Z9
        have hG24 := Z9.1.1
        have k9 := k h9 Z9
        exact s_return dX9_line_397 rfl k9
    · have c5 := b01_0.mp c5
      refine s_aload_n dX9_line_184 rfl ?_
      refine s_ldcS (j := 11) (z := 1000 + ((24 + 11 : Nat) : Int)) dX9_line_185 (by decide) rfl rfl (by decide) ?_
      refine s_callV (d' := d - 1) (bc' := 0) (bs' := 0) (as := [_]) dX9_line_187 vf_X9_130 (dd_ (by omega) (by decide)) ⟨Nat.zero_le _, Nat.zero_le _⟩ rfl rfl (Nat.le_of_ble_eq_true rfl) kl_7 rfl io_196 ?_
      refine k_isWord (j := 24 + 11) (by decide) (by omega) S (fun hhG25 ShG25 ehG25 => ?_)
      have S := ShG25
      have e16 := ehG25
      have hG25 := ShG25.1.1
      refine s_if_ne (tgt := 202) dX9_line_190 (by decide) (by first | exact hG25.2 _ _ | exact hG.2 _ _ | exact b01_in _ | assumption | exact ⟨by omega, by omega⟩) (fun c9 => ?_) (fun c9 => ?_)
      · have c9 := b01_n.mp c9
        refine s_aload_n dX9_line_202 rfl ?_
        refine s_aload_n dX9_line_203 rfl ?_
        refine s_ldcS (j := 7) (z := 1000 + ((24 + 7 : Nat) : Int)) dX9_line_204 (by decide) rfl rfl (by decide) ?_
        refine s_callV (d' := d - 1) (bc' := 0) (bs' := 0) (as := [_]) dX9_line_206 vf_X9_130 (dd_ (by omega) (by decide)) ⟨Nat.zero_le _, Nat.zero_le _⟩ rfl rfl (Nat.le_of_ble_eq_true rfl) kl_7 rfl io_196 ?_
        refine k_isWord (j := 24 + 7) (by decide) (by omega) S (fun hhG26 ShG26 ehG26 => ?_)
        have S := ShG26
        have e16 := ehG26
        have hG26 := ShG26.1.1
        refine s_if_eq (tgt := 216) dX9_line_209 (by decide) (by first | exact hG26.2 _ _ | exact hG.2 _ _ | exact b01_in _ | assumption | exact ⟨by omega, by omega⟩) (fun c10 => ?_) (fun c10 => ?_)
        · have c10 := b01_0.mp c10
          refine s_aload_n dX9_line_216 rfl ?_
          refine s_ldcS (j := 9) (z := 1000 + ((24 + 9 : Nat) : Int)) dX9_line_217 (by decide) rfl rfl (by decide) ?_
          refine s_callV (d' := d - 1) (bc' := 0) (bs' := 0) (as := [_]) dX9_line_219 vf_X9_130 (dd_ (by omega) (by decide)) ⟨Nat.zero_le _, Nat.zero_le _⟩ rfl rfl (Nat.le_of_ble_eq_true rfl) kl_7 rfl io_196 ?_
          refine k_isWord (j := 24 + 9) (by decide) (by omega) S (fun hhG27 ShG27 ehG27 => ?_)
          have S := ShG27
          have e16 := ehG27
          have hG27 := ShG27.1.1
          refine s_if_eq (tgt := 229) dX9_line_222 (by decide) (by first | exact hG27.2 _ _ | exact hG.2 _ _ | exact b01_in _ | assumption | exact ⟨by omega, by omega⟩) (fun c11 => ?_) (fun c11 => ?_)
          · have c11 := b01_0.mp c11
            refine s_aload_n dX9_line_229 rfl ?_
            refine s_ldcS (j := 11) (z := 1000 + ((24 + 11 : Nat) : Int)) dX9_line_230 (by decide) rfl rfl (by decide) ?_
            refine s_callV (d' := d - 1) (bc' := 0) (bs' := 0) (as := [_]) dX9_line_232 vf_X9_130 (dd_ (by omega) (by decide)) ⟨Nat.zero_le _, Nat.zero_le _⟩ rfl rfl (Nat.le_of_ble_eq_true rfl) kl_7 rfl io_196 ?_
            refine k_isWord (j := 24 + 11) (by decide) (by omega) S (fun hhG28 ShG28 ehG28 => ?_)
            have S := ShG28
            have e16 := ehG28
            have hG28 := ShG28.1.1
            refine s_if_eq (tgt := 242) dX9_line_235 (by decide) (by first | exact hG28.2 _ _ | exact hG.2 _ _ | exact b01_in _ | assumption | exact ⟨by omega, by omega⟩) (fun c12 => ?_) (fun c12 => ?_)
            · have c12 := b01_0.mp c12
              refine s_iconst dX9_line_242 ?_
              refine s_callV (d' := d - 1) (bc' := 0) (bs' := 0) (as := [_]) dX9_line_243 vf_X9_251 (dd_ (by omega) (by decide)) ⟨Nat.zero_le _, Nat.zero_le _⟩ rfl rfl (Nat.le_of_ble_eq_true rfl) kl_7 rfl io_196 ?_
              have cw9 : iw_ T (nb_ T n a) (wl__ T n a) (24 + 12) := by
                first
                  | assumption
                  | exact absurd (by assumption : iw_ T (nb_ T n a) (wl__ T n a) (24 + 7)) (by assumption)
                  | exact absurd (by assumption : iw_ T (nb_ T n a) (wl__ T n a) (24 + 9)) (by assumption)
                  | exact absurd (by assumption : iw_ T (nb_ T n a) (wl__ T n a) (24 + 11)) (by assumption)
              have fl0 := aw_fl S.2.1
              have Pb := ln_aw P S.2.1
              have Sb := ok_re S
              refine c3_X9_giftLine (by omega) Sb e16 Pb cw9 (fun h29 X29 => ?_)
              have YY : LY_ n T h _ h29 := ly_tr fl0 X29
              have hG29 : G h29 := by rcases YY with q | q <;> exact q.1.1
              have hp := pl_12 (y := y) (by assumption : iw_ T (nb_ T n a) (wl__ T n a) (24 + 12))
              refine s_goto (tgt := 393) dX9_line_246 (by decide) ?_
              refine s_aload_n dX9_line_393 rfl ?_
              refine s_callV (d' := d - 1) (bc' := 0) (bs' := 0) (as := []) dX9_line_394 vf_X9_263 (dd_ (by omega) (by decide)) ⟨Nat.zero_le _, Nat.zero_le _⟩ rfl rfl (Nat.le_of_ble_eq_true rfl) kl_7 rfl io_196 ?_
              refine st_X9 (by omega) hT YY (fun h9 Z9 => ?_)
              rw [← hp] at Z9
              have hG30 := Z9.1.1
              have k9 := k h9 Z9
              exact s_return dX9_line_397 rfl k9
            · have c12 := b01_n.mp c12
              refine s_iconst dX9_line_238 ?_
              refine s_goto (tgt := 243) dX9_line_239 (by decide) ?_
              refine s_callV (d' := d - 1) (bc' := 0) (bs' := 0) (as := [_]) dX9_line_243 vf_X9_251 (dd_ (by omega) (by decide)) ⟨Nat.zero_le _, Nat.zero_le _⟩ rfl rfl (Nat.le_of_ble_eq_true rfl) kl_7 rfl io_196 ?_
              have cw9 : iw_ T (nb_ T n a) (wl__ T n a) (24 + 11) := by
                first
                  | assumption
                  | exact absurd (by assumption : iw_ T (nb_ T n a) (wl__ T n a) (24 + 7)) (by assumption)
                  | exact absurd (by assumption : iw_ T (nb_ T n a) (wl__ T n a) (24 + 9)) (by assumption)
                  | exact absurd (by assumption : iw_ T (nb_ T n a) (wl__ T n a) (24 + 11)) (by assumption)
              have fl0 := aw_fl S.2.1
              have Pb := ln_aw P S.2.1
              have Sb := ok_re S
              refine c2_X9_giftLine (by omega) Sb e16 Pb cw9 (fun h31 X31 => ?_)
              have YY : LY_ n T h _ h31 := ly_tr fl0 X31
              have hG31 : G h31 := by rcases YY with q | q <;> exact q.1.1
              have hp := pl_11 (y := y) (by assumption : iw_ T (nb_ T n a) (wl__ T n a) (24 + 11))
              refine s_goto (tgt := 393) dX9_line_246 (by decide) ?_
              refine s_aload_n dX9_line_393 rfl ?_
              refine s_callV (d' := d - 1) (bc' := 0) (bs' := 0) (as := []) dX9_line_394 vf_X9_263 (dd_ (by omega) (by decide)) ⟨Nat.zero_le _, Nat.zero_le _⟩ rfl rfl (Nat.le_of_ble_eq_true rfl) kl_7 rfl io_196 ?_
              refine st_X9 (by omega) hT YY (fun h9 Z9 => ?_)
              rw [← hp] at Z9
              have hG32 := Z9.1.1
              have k9 := k h9 Z9
              exact s_return dX9_line_397 rfl k9
          · have c11 := b01_n.mp c11
            refine s_iconst dX9_line_225 ?_
            refine s_goto (tgt := 243) dX9_line_226 (by decide) ?_
            refine s_callV (d' := d - 1) (bc' := 0) (bs' := 0) (as := [_]) dX9_line_243 vf_X9_251 (dd_ (by omega) (by decide)) ⟨Nat.zero_le _, Nat.zero_le _⟩ rfl rfl (Nat.le_of_ble_eq_true rfl) kl_7 rfl io_196 ?_
            have cw9 : iw_ T (nb_ T n a) (wl__ T n a) (24 + 9) := by
              first
                | assumption
                | exact absurd (by assumption : iw_ T (nb_ T n a) (wl__ T n a) (24 + 7)) (by assumption)
                | exact absurd (by assumption : iw_ T (nb_ T n a) (wl__ T n a) (24 + 9)) (by assumption)
                | exact absurd (by assumption : iw_ T (nb_ T n a) (wl__ T n a) (24 + 11)) (by assumption)
            have fl0 := aw_fl S.2.1
            have Pb := ln_aw P S.2.1
            have Sb := ok_re S
            refine c1_X9_giftLine (by omega) Sb e16 Pb cw9 (fun h33 X33 => ?_)
            have YY : LY_ n T h _ h33 := ly_tr fl0 X33
            have hG33 : G h33 := by rcases YY with q | q <;> exact q.1.1
            have hp := pl_9 (y := y) (by assumption : iw_ T (nb_ T n a) (wl__ T n a) (24 + 9))
            refine s_goto (tgt := 393) dX9_line_246 (by decide) ?_
            refine s_aload_n dX9_line_393 rfl ?_
            refine s_callV (d' := d - 1) (bc' := 0) (bs' := 0) (as := []) dX9_line_394 vf_X9_263 (dd_ (by omega) (by decide)) ⟨Nat.zero_le _, Nat.zero_le _⟩ rfl rfl (Nat.le_of_ble_eq_true rfl) kl_7 rfl io_196 ?_
            refine st_X9 (by omega) hT YY (fun h9 Z9 => ?_)
            rw [← hp] at Z9
            have hG34 := Z9.1.1
            have k9 := k h9 Z9
            exact s_return dX9_line_397 rfl k9
        · have c10 := b01_n.mp c10
          refine s_iconst dX9_line_212 ?_
          refine s_goto (tgt := 243) dX9_line_213 (by decide) ?_
          refine s_callV (d' := d - 1) (bc' := 0) (bs' := 0) (as := [_]) dX9_line_243 vf_X9_251 (dd_ (by omega) (by decide)) ⟨Nat.zero_le _, Nat.zero_le _⟩ rfl rfl (Nat.le_of_ble_eq_true rfl) kl_7 rfl io_196 ?_
          have cw9 : iw_ T (nb_ T n a) (wl__ T n a) (24 + 7) := by
            first
              | assumption
              | exact absurd (by assumption : iw_ T (nb_ T n a) (wl__ T n a) (24 + 7)) (by assumption)
              | exact absurd (by assumption : iw_ T (nb_ T n a) (wl__ T n a) (24 + 9)) (by assumption)
              | exact absurd (by assumption : iw_ T (nb_ T n a) (wl__ T n a) (24 + 11)) (by assumption)
          have fl0 := aw_fl S.2.1
          have Pb := ln_aw P S.2.1
          have Sb := ok_re S
          refine c0_X9_giftLine (by omega) Sb e16 Pb cw9 (fun h35 X35 => ?_)
          have YY : LY_ n T h _ h35 := ly_tr fl0 X35
          have hG35 : G h35 := by rcases YY with q | q <;> exact q.1.1
          have hp := pl_7 (y := y) (by assumption : iw_ T (nb_ T n a) (wl__ T n a) (24 + 7))
          refine s_goto (tgt := 393) dX9_line_246 (by decide) ?_
          refine s_aload_n dX9_line_393 rfl ?_
          refine s_callV (d' := d - 1) (bc' := 0) (bs' := 0) (as := []) dX9_line_394 vf_X9_263 (dd_ (by omega) (by decide)) ⟨Nat.zero_le _, Nat.zero_le _⟩ rfl rfl (Nat.le_of_ble_eq_true rfl) kl_7 rfl io_196 ?_
          refine st_X9 (by omega) hT YY (fun h9 Z9 => ?_)
          rw [← hp] at Z9
          have hG36 := Z9.1.1
          have k9 := k h9 Z9
          exact s_return dX9_line_397 rfl k9
      · have c9 := b01_0.mp c9
        refine s_aload_n dX9_line_193 rfl ?_
        refine s_ldcS (j := 12) (z := 1000 + ((24 + 12 : Nat) : Int)) dX9_line_194 (by decide) rfl rfl (by decide) ?_
        refine s_callV (d' := d - 1) (bc' := 0) (bs' := 0) (as := [_]) dX9_line_196 vf_X9_130 (dd_ (by omega) (by decide)) ⟨Nat.zero_le _, Nat.zero_le _⟩ rfl rfl (Nat.le_of_ble_eq_true rfl) kl_7 rfl io_196 ?_
        refine k_isWord (j := 24 + 12) (by decide) (by omega) S (fun hhG37 ShG37 ehG37 => ?_)
        have S := ShG37
        have e16 := ehG37
        have hG37 := ShG37.1.1
        refine s_if_eq (tgt := 249) dX9_line_199 (by decide) (by first | exact hG37.2 _ _ | exact hG.2 _ _ | exact b01_in _ | assumption | exact ⟨by omega, by omega⟩) (fun c13 => ?_) (fun c13 => ?_)
        · have c13 := b01_0.mp c13
          exact ln_249 hd S e16 hT P k (by assumption) (by assumption) (by assumption) (by assumption) (by assumption) (by assumption) (by assumption) (by assumption) (by assumption) (by assumption) (by assumption) (by assumption)
        · have c13 := b01_n.mp c13
          refine s_aload_n dX9_line_202 rfl ?_
          refine s_aload_n dX9_line_203 rfl ?_
          refine s_ldcS (j := 7) (z := 1000 + ((24 + 7 : Nat) : Int)) dX9_line_204 (by decide) rfl rfl (by decide) ?_
          refine s_callV (d' := d - 1) (bc' := 0) (bs' := 0) (as := [_]) dX9_line_206 vf_X9_130 (dd_ (by omega) (by decide)) ⟨Nat.zero_le _, Nat.zero_le _⟩ rfl rfl (Nat.le_of_ble_eq_true rfl) kl_7 rfl io_196 ?_
          refine k_isWord (j := 24 + 7) (by decide) (by omega) S (fun hhG38 ShG38 ehG38 => ?_)
          have S := ShG38
          have e16 := ehG38
          have hG38 := ShG38.1.1
          refine s_if_eq (tgt := 216) dX9_line_209 (by decide) (by first | exact hG38.2 _ _ | exact hG.2 _ _ | exact b01_in _ | assumption | exact ⟨by omega, by omega⟩) (fun c14 => ?_) (fun c14 => ?_)
          · have c14 := b01_0.mp c14
            refine s_aload_n dX9_line_216 rfl ?_
            refine s_ldcS (j := 9) (z := 1000 + ((24 + 9 : Nat) : Int)) dX9_line_217 (by decide) rfl rfl (by decide) ?_
            refine s_callV (d' := d - 1) (bc' := 0) (bs' := 0) (as := [_]) dX9_line_219 vf_X9_130 (dd_ (by omega) (by decide)) ⟨Nat.zero_le _, Nat.zero_le _⟩ rfl rfl (Nat.le_of_ble_eq_true rfl) kl_7 rfl io_196 ?_
            refine k_isWord (j := 24 + 9) (by decide) (by omega) S (fun hhG39 ShG39 ehG39 => ?_)
            have S := ShG39
            have e16 := ehG39
            have hG39 := ShG39.1.1
            refine s_if_eq (tgt := 229) dX9_line_222 (by decide) (by first | exact hG39.2 _ _ | exact hG.2 _ _ | exact b01_in _ | assumption | exact ⟨by omega, by omega⟩) (fun c15 => ?_) (fun c15 => ?_)
            · have c15 := b01_0.mp c15
              refine s_aload_n dX9_line_229 rfl ?_
              refine s_ldcS (j := 11) (z := 1000 + ((24 + 11 : Nat) : Int)) dX9_line_230 (by decide) rfl rfl (by decide) ?_
              refine s_callV (d' := d - 1) (bc' := 0) (bs' := 0) (as := [_]) dX9_line_232 vf_X9_130 (dd_ (by omega) (by decide)) ⟨Nat.zero_le _, Nat.zero_le _⟩ rfl rfl (Nat.le_of_ble_eq_true rfl) kl_7 rfl io_196 ?_
              refine k_isWord (j := 24 + 11) (by decide) (by omega) S (fun hhG40 ShG40 ehG40 => ?_)
              have S := ShG40
              have e16 := ehG40
              have hG40 := ShG40.1.1
              refine s_if_eq (tgt := 242) dX9_line_235 (by decide) (by first | exact hG40.2 _ _ | exact hG.2 _ _ | exact b01_in _ | assumption | exact ⟨by omega, by omega⟩) (fun c16 => ?_) (fun c16 => ?_)
              · have c16 := b01_0.mp c16
                refine s_iconst dX9_line_242 ?_
                refine s_callV (d' := d - 1) (bc' := 0) (bs' := 0) (as := [_]) dX9_line_243 vf_X9_251 (dd_ (by omega) (by decide)) ⟨Nat.zero_le _, Nat.zero_le _⟩ rfl rfl (Nat.le_of_ble_eq_true rfl) kl_7 rfl io_196 ?_
                have cw9 : iw_ T (nb_ T n a) (wl__ T n a) (24 + 12) := by
                  first
                    | assumption
                    | exact absurd (by assumption : iw_ T (nb_ T n a) (wl__ T n a) (24 + 7)) (by assumption)
                    | exact absurd (by assumption : iw_ T (nb_ T n a) (wl__ T n a) (24 + 9)) (by assumption)
                    | exact absurd (by assumption : iw_ T (nb_ T n a) (wl__ T n a) (24 + 11)) (by assumption)
                have fl0 := aw_fl S.2.1
                have Pb := ln_aw P S.2.1
                have Sb := ok_re S
                refine c3_X9_giftLine (by omega) Sb e16 Pb cw9 (fun h41 X41 => ?_)
                have YY : LY_ n T h _ h41 := ly_tr fl0 X41
                have hG41 : G h41 := by rcases YY with q | q <;> exact q.1.1
                have hp := pl_12 (y := y) (by assumption : iw_ T (nb_ T n a) (wl__ T n a) (24 + 12))
                refine s_goto (tgt := 393) dX9_line_246 (by decide) ?_
                refine s_aload_n dX9_line_393 rfl ?_
                refine s_callV (d' := d - 1) (bc' := 0) (bs' := 0) (as := []) dX9_line_394 vf_X9_263 (dd_ (by omega) (by decide)) ⟨Nat.zero_le _, Nat.zero_le _⟩ rfl rfl (Nat.le_of_ble_eq_true rfl) kl_7 rfl io_196 ?_
                refine st_X9 (by omega) hT YY (fun h9 Z9 => ?_)
                rw [← hp] at Z9
                have hG42 := Z9.1.1
                have k9 := k h9 Z9
                exact s_return dX9_line_397 rfl k9
              · have c16 := b01_n.mp c16
                refine s_iconst dX9_line_238 ?_
                refine s_goto (tgt := 243) dX9_line_239 (by decide) ?_
                refine s_callV (d' := d - 1) (bc' := 0) (bs' := 0) (as := [_]) dX9_line_243 vf_X9_251 (dd_ (by omega) (by decide)) ⟨Nat.zero_le _, Nat.zero_le _⟩ rfl rfl (Nat.le_of_ble_eq_true rfl) kl_7 rfl io_196 ?_
                have cw9 : iw_ T (nb_ T n a) (wl__ T n a) (24 + 11) := by
                  first
                    | assumption
                    | exact absurd (by assumption : iw_ T (nb_ T n a) (wl__ T n a) (24 + 7)) (by assumption)
                    | exact absurd (by assumption : iw_ T (nb_ T n a) (wl__ T n a) (24 + 9)) (by assumption)
                    | exact absurd (by assumption : iw_ T (nb_ T n a) (wl__ T n a) (24 + 11)) (by assumption)
                have fl0 := aw_fl S.2.1
                have Pb := ln_aw P S.2.1
                have Sb := ok_re S
                refine c2_X9_giftLine (by omega) Sb e16 Pb cw9 (fun h43 X43 => ?_)
                have YY : LY_ n T h _ h43 := ly_tr fl0 X43
                have hG43 : G h43 := by rcases YY with q | q <;> exact q.1.1
                have hp := pl_11 (y := y) (by assumption : iw_ T (nb_ T n a) (wl__ T n a) (24 + 11))
                refine s_goto (tgt := 393) dX9_line_246 (by decide) ?_
                refine s_aload_n dX9_line_393 rfl ?_
                refine s_callV (d' := d - 1) (bc' := 0) (bs' := 0) (as := []) dX9_line_394 vf_X9_263 (dd_ (by omega) (by decide)) ⟨Nat.zero_le _, Nat.zero_le _⟩ rfl rfl (Nat.le_of_ble_eq_true rfl) kl_7 rfl io_196 ?_
                refine st_X9 (by omega) hT YY (fun h9 Z9 => ?_)
                rw [← hp] at Z9
                have hG44 := Z9.1.1
                have k9 := k h9 Z9
                exact s_return dX9_line_397 rfl k9
            · have c15 := b01_n.mp c15
              refine s_iconst dX9_line_225 ?_
              refine s_goto (tgt := 243) dX9_line_226 (by decide) ?_
              refine s_callV (d' := d - 1) (bc' := 0) (bs' := 0) (as := [_]) dX9_line_243 vf_X9_251 (dd_ (by omega) (by decide)) ⟨Nat.zero_le _, Nat.zero_le _⟩ rfl rfl (Nat.le_of_ble_eq_true rfl) kl_7 rfl io_196 ?_
              have cw9 : iw_ T (nb_ T n a) (wl__ T n a) (24 + 9) := by
                first
                  | assumption
                  | exact absurd (by assumption : iw_ T (nb_ T n a) (wl__ T n a) (24 + 7)) (by assumption)
                  | exact absurd (by assumption : iw_ T (nb_ T n a) (wl__ T n a) (24 + 9)) (by assumption)
                  | exact absurd (by assumption : iw_ T (nb_ T n a) (wl__ T n a) (24 + 11)) (by assumption)
              have fl0 := aw_fl S.2.1
              have Pb := ln_aw P S.2.1
              have Sb := ok_re S
              refine c1_X9_giftLine (by omega) Sb e16 Pb cw9 (fun h45 X45 => ?_)
              have YY : LY_ n T h _ h45 := ly_tr fl0 X45
              have hG45 : G h45 := by rcases YY with q | q <;> exact q.1.1
              have hp := pl_9 (y := y) (by assumption : iw_ T (nb_ T n a) (wl__ T n a) (24 + 9))
              refine s_goto (tgt := 393) dX9_line_246 (by decide) ?_
              refine s_aload_n dX9_line_393 rfl ?_
              refine s_callV (d' := d - 1) (bc' := 0) (bs' := 0) (as := []) dX9_line_394 vf_X9_263 (dd_ (by omega) (by decide)) ⟨Nat.zero_le _, Nat.zero_le _⟩ rfl rfl (Nat.le_of_ble_eq_true rfl) kl_7 rfl io_196 ?_
              refine st_X9 (by omega) hT YY (fun h9 Z9 => ?_)
              rw [← hp] at Z9
              have hG46 := Z9.1.1
              have k9 := k h9 Z9
              exact s_return dX9_line_397 rfl k9
          · have c14 := b01_n.mp c14
            refine s_iconst dX9_line_212 ?_
            refine s_goto (tgt := 243) dX9_line_213 (by decide) ?_
            refine s_callV (d' := d - 1) (bc' := 0) (bs' := 0) (as := [_]) dX9_line_243 vf_X9_251 (dd_ (by omega) (by decide)) ⟨Nat.zero_le _, Nat.zero_le _⟩ rfl rfl (Nat.le_of_ble_eq_true rfl) kl_7 rfl io_196 ?_
            have cw9 : iw_ T (nb_ T n a) (wl__ T n a) (24 + 7) := by
              first
                | assumption
                | exact absurd (by assumption : iw_ T (nb_ T n a) (wl__ T n a) (24 + 7)) (by assumption)
                | exact absurd (by assumption : iw_ T (nb_ T n a) (wl__ T n a) (24 + 9)) (by assumption)
                | exact absurd (by assumption : iw_ T (nb_ T n a) (wl__ T n a) (24 + 11)) (by assumption)
            have fl0 := aw_fl S.2.1
            have Pb := ln_aw P S.2.1
            have Sb := ok_re S
            refine c0_X9_giftLine (by omega) Sb e16 Pb cw9 (fun h47 X47 => ?_)
            have YY : LY_ n T h _ h47 := ly_tr fl0 X47
            have hG47 : G h47 := by rcases YY with q | q <;> exact q.1.1
            have hp := pl_7 (y := y) (by assumption : iw_ T (nb_ T n a) (wl__ T n a) (24 + 7))
            refine s_goto (tgt := 393) dX9_line_246 (by decide) ?_
            refine s_aload_n dX9_line_393 rfl ?_
            refine s_callV (d' := d - 1) (bc' := 0) (bs' := 0) (as := []) dX9_line_394 vf_X9_263 (dd_ (by omega) (by decide)) ⟨Nat.zero_le _, Nat.zero_le _⟩ rfl rfl (Nat.le_of_ble_eq_true rfl) kl_7 rfl io_196 ?_
            refine st_X9 (by omega) hT YY (fun h9 Z9 => ?_)
            rw [← hp] at Z9
            have hG48 := Z9.1.1
            have k9 := k h9 Z9
            exact s_return dX9_line_397 rfl k9
set_option maxRecDepth 100000 in
set_option maxHeartbeats 4000000 in
theorem ln_105 {hc : PH} (hd : 10 ≤ d) (S : OK9 n T h a hc) (e16 : hc 196 16 = nb_ T n a) (hT : ∀ k : Int, 0 ≤ k → k < n → -128 ≤ T k ∧ T k < 128) (P : LN_ y h) (k : ∀ h1 : PH, LZ_ n T h (pLine T n a y) h1 → Q.1 none nN h1) (m0 : ¬ iw_ T (nb_ T n a) (wl__ T n a) (24 + 0)) (m1 : ¬ iw_ T (nb_ T n a) (wl__ T n a) (24 + 1)) (m2 : ¬ iw_ T (nb_ T n a) (wl__ T n a) (24 + 2)) (m19 : ¬ iw_ T (nb_ T n a) (wl__ T n a) (24 + 19)) (m20 : ¬ iw_ T (nb_ T n a) (wl__ T n a) (24 + 20)) : S_ MX9_line d bc bs Q 105 [(2, 196), (9, 0), (9, 0)] [] nN hc := by
  have hG := S.1.1
  have n4 := S.1.2.2.2.1
  have nb0 := nb_0 S
  have yc := ln_c P
  refine s_aload_n dX9_line_105 rfl ?_
  refine s_ldcS (j := 3) (z := 1000 + ((24 + 3 : Nat) : Int)) dX9_line_106 (by decide) rfl rfl (by decide) ?_
  refine s_callV (d' := d - 1) (bc' := 0) (bs' := 0) (as := [_]) dX9_line_108 vf_X9_130 (dd_ (by omega) (by decide)) ⟨Nat.zero_le _, Nat.zero_le _⟩ rfl rfl (Nat.le_of_ble_eq_true rfl) kl_7 rfl io_196 ?_
  refine k_isWord (j := 24 + 3) (by decide) (by omega) S (fun hhG1 ShG1 ehG1 => ?_)
  have S := ShG1
  have e16 := ehG1
  have hG1 := ShG1.1.1
  refine s_if_ne (tgt := 132) dX9_line_111 (by decide) (by first | exact hG1.2 _ _ | exact hG.2 _ _ | exact b01_in _ | assumption | exact ⟨by omega, by omega⟩) (fun c1 => ?_) (fun c1 => ?_)
  · have c1 := b01_n.mp c1
    refine s_aload_n dX9_line_132 rfl ?_
    refine s_aload_n dX9_line_133 rfl ?_
    refine s_ldcS (j := 3) (z := 1000 + ((24 + 3 : Nat) : Int)) dX9_line_134 (by decide) rfl rfl (by decide) ?_
    refine s_callV (d' := d - 1) (bc' := 0) (bs' := 0) (as := [_]) dX9_line_136 vf_X9_130 (dd_ (by omega) (by decide)) ⟨Nat.zero_le _, Nat.zero_le _⟩ rfl rfl (Nat.le_of_ble_eq_true rfl) kl_7 rfl io_196 ?_
    refine k_isWord (j := 24 + 3) (by decide) (by omega) S (fun hhG2 ShG2 ehG2 => ?_)
    have S := ShG2
    have e16 := ehG2
    have hG2 := ShG2.1.1
    refine s_if_eq (tgt := 146) dX9_line_139 (by decide) (by first | exact hG2.2 _ _ | exact hG.2 _ _ | exact b01_in _ | assumption | exact ⟨by omega, by omega⟩) (fun c2 => ?_) (fun c2 => ?_)
    · have c2 := b01_0.mp c2
      refine s_aload_n dX9_line_146 rfl ?_
      refine s_ldcS (j := 4) (z := 1000 + ((24 + 4 : Nat) : Int)) dX9_line_147 (by decide) rfl rfl (by decide) ?_
      refine s_callV (d' := d - 1) (bc' := 0) (bs' := 0) (as := [_]) dX9_line_149 vf_X9_130 (dd_ (by omega) (by decide)) ⟨Nat.zero_le _, Nat.zero_le _⟩ rfl rfl (Nat.le_of_ble_eq_true rfl) kl_7 rfl io_196 ?_
      refine k_isWord (j := 24 + 4) (by decide) (by omega) S (fun hhG3 ShG3 ehG3 => ?_)
      have S := ShG3
      have e16 := ehG3
      have hG3 := ShG3.1.1
      refine s_if_eq (tgt := 159) dX9_line_152 (by decide) (by first | exact hG3.2 _ _ | exact hG.2 _ _ | exact b01_in _ | assumption | exact ⟨by omega, by omega⟩) (fun c3 => ?_) (fun c3 => ?_)
      · have c3 := b01_0.mp c3
        refine s_iconst dX9_line_159 ?_
        refine s_callV (d' := d - 1) (bc' := 0) (bs' := 0) (as := [_]) dX9_line_160 vf_X9_248 (dd_ (by omega) (by decide)) ⟨Nat.zero_le _, Nat.zero_le _⟩ rfl rfl (Nat.le_of_ble_eq_true rfl) kl_7 rfl io_196 ?_
        have cw9 : iw_ T (nb_ T n a) (wl__ T n a) (24 + 5) := by
          first
            | assumption
            | exact absurd (by assumption : iw_ T (nb_ T n a) (wl__ T n a) (24 + 3)) (by assumption)
            | exact absurd (by assumption : iw_ T (nb_ T n a) (wl__ T n a) (24 + 4)) (by assumption)
        have fl0 := aw_fl S.2.1
        have Pb := ln_aw P S.2.1
        have Sb := ok_re S
        refine c2_X9_personLine (by omega) Sb e16 Pb cw9 (fun h4 X4 => ?_)
        have hG4 := X4.1.1
        have YY : LY_ n T h _ h4 := Or.inl (lx_tr fl0 X4)
        have hp := pl_5 (y := y) (by assumption : iw_ T (nb_ T n a) (wl__ T n a) (24 + 5))
        refine s_goto (tgt := 393) dX9_line_163 (by decide) ?_
        refine s_aload_n dX9_line_393 rfl ?_
        refine s_callV (d' := d - 1) (bc' := 0) (bs' := 0) (as := []) dX9_line_394 vf_X9_263 (dd_ (by omega) (by decide)) ⟨Nat.zero_le _, Nat.zero_le _⟩ rfl rfl (Nat.le_of_ble_eq_true rfl) kl_7 rfl io_196 ?_
        refine st_X9 (by omega) hT YY (fun h9 Z9 => ?_)
        rw [← hp] at Z9
        have hG5 := Z9.1.1
        have k9 := k h9 Z9
        exact s_return dX9_line_397 rfl k9
      · have c3 := b01_n.mp c3
        refine s_iconst dX9_line_155 ?_
        refine s_goto (tgt := 160) dX9_line_156 (by decide) ?_
        refine s_callV (d' := d - 1) (bc' := 0) (bs' := 0) (as := [_]) dX9_line_160 vf_X9_248 (dd_ (by omega) (by decide)) ⟨Nat.zero_le _, Nat.zero_le _⟩ rfl rfl (Nat.le_of_ble_eq_true rfl) kl_7 rfl io_196 ?_
        have cw9 : iw_ T (nb_ T n a) (wl__ T n a) (24 + 4) := by
          first
            | assumption
            | exact absurd (by assumption : iw_ T (nb_ T n a) (wl__ T n a) (24 + 3)) (by assumption)
            | exact absurd (by assumption : iw_ T (nb_ T n a) (wl__ T n a) (24 + 4)) (by assumption)
        have fl0 := aw_fl S.2.1
        have Pb := ln_aw P S.2.1
        have Sb := ok_re S
        refine c1_X9_personLine (by omega) Sb e16 Pb cw9 (fun h6 X6 => ?_)
        have hG6 := X6.1.1
        have YY : LY_ n T h _ h6 := Or.inl (lx_tr fl0 X6)
        have hp := pl_4 (y := y) (by assumption : iw_ T (nb_ T n a) (wl__ T n a) (24 + 4))
        refine s_goto (tgt := 393) dX9_line_163 (by decide) ?_
        refine s_aload_n dX9_line_393 rfl ?_
        refine s_callV (d' := d - 1) (bc' := 0) (bs' := 0) (as := []) dX9_line_394 vf_X9_263 (dd_ (by omega) (by decide)) ⟨Nat.zero_le _, Nat.zero_le _⟩ rfl rfl (Nat.le_of_ble_eq_true rfl) kl_7 rfl io_196 ?_
        refine st_X9 (by omega) hT YY (fun h9 Z9 => ?_)
        rw [← hp] at Z9
        have hG7 := Z9.1.1
        have k9 := k h9 Z9
        exact s_return dX9_line_397 rfl k9
    · have c2 := b01_n.mp c2
      refine s_iconst dX9_line_142 ?_
      refine s_goto (tgt := 160) dX9_line_143 (by decide) ?_
      refine s_callV (d' := d - 1) (bc' := 0) (bs' := 0) (as := [_]) dX9_line_160 vf_X9_248 (dd_ (by omega) (by decide)) ⟨Nat.zero_le _, Nat.zero_le _⟩ rfl rfl (Nat.le_of_ble_eq_true rfl) kl_7 rfl io_196 ?_
      have cw9 : iw_ T (nb_ T n a) (wl__ T n a) (24 + 3) := by
        first
          | assumption
          | exact absurd (by assumption : iw_ T (nb_ T n a) (wl__ T n a) (24 + 3)) (by assumption)
          | exact absurd (by assumption : iw_ T (nb_ T n a) (wl__ T n a) (24 + 4)) (by assumption)
      have fl0 := aw_fl S.2.1
      have Pb := ln_aw P S.2.1
      have Sb := ok_re S
      refine c0_X9_personLine (by omega) Sb e16 Pb cw9 (fun h8 X8 => ?_)
      have hG8 := X8.1.1
      have YY : LY_ n T h _ h8 := Or.inl (lx_tr fl0 X8)
      have hp := pl_3 (y := y) (by assumption : iw_ T (nb_ T n a) (wl__ T n a) (24 + 3))
      refine s_goto (tgt := 393) dX9_line_163 (by decide) ?_
      refine s_aload_n dX9_line_393 rfl ?_
      refine s_callV (d' := d - 1) (bc' := 0) (bs' := 0) (as := []) dX9_line_394 vf_X9_263 (dd_ (by omega) (by decide)) ⟨Nat.zero_le _, Nat.zero_le _⟩ rfl rfl (Nat.le_of_ble_eq_true rfl) kl_7 rfl io_196 ?_
      refine st_X9 (by omega) hT YY (fun h9 Z9 => ?_)
      rw [← hp] at Z9
      have hG9 := Z9.1.1
      have k9 := k h9 Z9
      exact s_return dX9_line_397 rfl k9
  · have c1 := b01_0.mp c1
    refine s_aload_n dX9_line_114 rfl ?_
    refine s_ldcS (j := 4) (z := 1000 + ((24 + 4 : Nat) : Int)) dX9_line_115 (by decide) rfl rfl (by decide) ?_
    refine s_callV (d' := d - 1) (bc' := 0) (bs' := 0) (as := [_]) dX9_line_117 vf_X9_130 (dd_ (by omega) (by decide)) ⟨Nat.zero_le _, Nat.zero_le _⟩ rfl rfl (Nat.le_of_ble_eq_true rfl) kl_7 rfl io_196 ?_
    refine k_isWord (j := 24 + 4) (by decide) (by omega) S (fun hhG10 ShG10 ehG10 => ?_)
    have S := ShG10
    have e16 := ehG10
    have hG10 := ShG10.1.1
    refine s_if_ne (tgt := 132) dX9_line_120 (by decide) (by first | exact hG10.2 _ _ | exact hG.2 _ _ | exact b01_in _ | assumption | exact ⟨by omega, by omega⟩) (fun c4 => ?_) (fun c4 => ?_)
    · have c4 := b01_n.mp c4
      refine s_aload_n dX9_line_132 rfl ?_
      refine s_aload_n dX9_line_133 rfl ?_
      refine s_ldcS (j := 3) (z := 1000 + ((24 + 3 : Nat) : Int)) dX9_line_134 (by decide) rfl rfl (by decide) ?_
      refine s_callV (d' := d - 1) (bc' := 0) (bs' := 0) (as := [_]) dX9_line_136 vf_X9_130 (dd_ (by omega) (by decide)) ⟨Nat.zero_le _, Nat.zero_le _⟩ rfl rfl (Nat.le_of_ble_eq_true rfl) kl_7 rfl io_196 ?_
      refine k_isWord (j := 24 + 3) (by decide) (by omega) S (fun hhG11 ShG11 ehG11 => ?_)
      have S := ShG11
      have e16 := ehG11
      have hG11 := ShG11.1.1
      refine s_if_eq (tgt := 146) dX9_line_139 (by decide) (by first | exact hG11.2 _ _ | exact hG.2 _ _ | exact b01_in _ | assumption | exact ⟨by omega, by omega⟩) (fun c5 => ?_) (fun c5 => ?_)
      · have c5 := b01_0.mp c5
        refine s_aload_n dX9_line_146 rfl ?_
        refine s_ldcS (j := 4) (z := 1000 + ((24 + 4 : Nat) : Int)) dX9_line_147 (by decide) rfl rfl (by decide) ?_
        refine s_callV (d' := d - 1) (bc' := 0) (bs' := 0) (as := [_]) dX9_line_149 vf_X9_130 (dd_ (by omega) (by decide)) ⟨Nat.zero_le _, Nat.zero_le _⟩ rfl rfl (Nat.le_of_ble_eq_true rfl) kl_7 rfl io_196 ?_
        refine k_isWord (j := 24 + 4) (by decide) (by omega) S (fun hhG12 ShG12 ehG12 => ?_)
        have S := ShG12
        have e16 := ehG12
        have hG12 := ShG12.1.1
        refine s_if_eq (tgt := 159) dX9_line_152 (by decide) (by first | exact hG12.2 _ _ | exact hG.2 _ _ | exact b01_in _ | assumption | exact ⟨by omega, by omega⟩) (fun c6 => ?_) (fun c6 => ?_)
        · have c6 := b01_0.mp c6
          refine s_iconst dX9_line_159 ?_
          refine s_callV (d' := d - 1) (bc' := 0) (bs' := 0) (as := [_]) dX9_line_160 vf_X9_248 (dd_ (by omega) (by decide)) ⟨Nat.zero_le _, Nat.zero_le _⟩ rfl rfl (Nat.le_of_ble_eq_true rfl) kl_7 rfl io_196 ?_
          have cw9 : iw_ T (nb_ T n a) (wl__ T n a) (24 + 5) := by
            first
              | assumption
              | exact absurd (by assumption : iw_ T (nb_ T n a) (wl__ T n a) (24 + 3)) (by assumption)
              | exact absurd (by assumption : iw_ T (nb_ T n a) (wl__ T n a) (24 + 4)) (by assumption)
          have fl0 := aw_fl S.2.1
          have Pb := ln_aw P S.2.1
          have Sb := ok_re S
          refine c2_X9_personLine (by omega) Sb e16 Pb cw9 (fun h13 X13 => ?_)
          have hG13 := X13.1.1
          have YY : LY_ n T h _ h13 := Or.inl (lx_tr fl0 X13)
          have hp := pl_5 (y := y) (by assumption : iw_ T (nb_ T n a) (wl__ T n a) (24 + 5))
          refine s_goto (tgt := 393) dX9_line_163 (by decide) ?_
          refine s_aload_n dX9_line_393 rfl ?_
          refine s_callV (d' := d - 1) (bc' := 0) (bs' := 0) (as := []) dX9_line_394 vf_X9_263 (dd_ (by omega) (by decide)) ⟨Nat.zero_le _, Nat.zero_le _⟩ rfl rfl (Nat.le_of_ble_eq_true rfl) kl_7 rfl io_196 ?_
          refine st_X9 (by omega) hT YY (fun h9 Z9 => ?_)
          rw [← hp] at Z9
          have hG14 := Z9.1.1
          have k9 := k h9 Z9
          exact s_return dX9_line_397 rfl k9
        · have c6 := b01_n.mp c6
          refine s_iconst dX9_line_155 ?_
          refine s_goto (tgt := 160) dX9_line_156 (by decide) ?_
          refine s_callV (d' := d - 1) (bc' := 0) (bs' := 0) (as := [_]) dX9_line_160 vf_X9_248 (dd_ (by omega) (by decide)) ⟨Nat.zero_le _, Nat.zero_le _⟩ rfl rfl (Nat.le_of_ble_eq_true rfl) kl_7 rfl io_196 ?_
          have cw9 : iw_ T (nb_ T n a) (wl__ T n a) (24 + 4) := by
            first
              | assumption
              | exact absurd (by assumption : iw_ T (nb_ T n a) (wl__ T n a) (24 + 3)) (by assumption)
              | exact absurd (by assumption : iw_ T (nb_ T n a) (wl__ T n a) (24 + 4)) (by assumption)
          have fl0 := aw_fl S.2.1
          have Pb := ln_aw P S.2.1
          have Sb := ok_re S
          refine c1_X9_personLine (by omega) Sb e16 Pb cw9 (fun h15 X15 => ?_)
          have hG15 := X15.1.1
          have YY : LY_ n T h _ h15 := Or.inl (lx_tr fl0 X15)
          have hp := pl_4 (y := y) (by assumption : iw_ T (nb_ T n a) (wl__ T n a) (24 + 4))
          refine s_goto (tgt := 393) dX9_line_163 (by decide) ?_
          refine s_aload_n dX9_line_393 rfl ?_
          refine s_callV (d' := d - 1) (bc' := 0) (bs' := 0) (as := []) dX9_line_394 vf_X9_263 (dd_ (by omega) (by decide)) ⟨Nat.zero_le _, Nat.zero_le _⟩ rfl rfl (Nat.le_of_ble_eq_true rfl) kl_7 rfl io_196 ?_
          refine st_X9 (by omega) hT YY (fun h9 Z9 => ?_)
          rw [← hp] at Z9
          have hG16 := Z9.1.1
          have k9 := k h9 Z9
          exact s_return dX9_line_397 rfl k9
      · have c5 := b01_n.mp c5
        refine s_iconst dX9_line_142 ?_
        refine s_goto (tgt := 160) dX9_line_143 (by decide) ?_
        refine s_callV (d' := d - 1) (bc' := 0) (bs' := 0) (as := [_]) dX9_line_160 vf_X9_248 (dd_ (by omega) (by decide)) ⟨Nat.zero_le _, Nat.zero_le _⟩ rfl rfl (Nat.le_of_ble_eq_true rfl) kl_7 rfl io_196 ?_
        have cw9 : iw_ T (nb_ T n a) (wl__ T n a) (24 + 3) := by
          first
            | assumption
            | exact absurd (by assumption : iw_ T (nb_ T n a) (wl__ T n a) (24 + 3)) (by assumption)
            | exact absurd (by assumption : iw_ T (nb_ T n a) (wl__ T n a) (24 + 4)) (by assumption)
        have fl0 := aw_fl S.2.1
        have Pb := ln_aw P S.2.1
        have Sb := ok_re S
        refine c0_X9_personLine (by omega) Sb e16 Pb cw9 (fun h17 X17 => ?_)
        have hG17 := X17.1.1
        have YY : LY_ n T h _ h17 := Or.inl (lx_tr fl0 X17)
        have hp := pl_3 (y := y) (by assumption : iw_ T (nb_ T n a) (wl__ T n a) (24 + 3))
        refine s_goto (tgt := 393) dX9_line_163 (by decide) ?_
        refine s_aload_n dX9_line_393 rfl ?_
        refine s_callV (d' := d - 1) (bc' := 0) (bs' := 0) (as := []) dX9_line_394 vf_X9_263 (dd_ (by omega) (by decide)) ⟨Nat.zero_le _, Nat.zero_le _⟩ rfl rfl (Nat.le_of_ble_eq_true rfl) kl_7 rfl io_196 ?_
        refine st_X9 (by omega) hT YY (fun h9 Z9 => ?_)
        rw [← hp] at Z9
        have hG18 := Z9.1.1
        have k9 := k h9 Z9
        exact s_return dX9_line_397 rfl k9
    · have c4 := b01_0.mp c4
      refine s_aload_n dX9_line_123 rfl ?_
      refine s_ldcS (j := 5) (z := 1000 + ((24 + 5 : Nat) : Int)) dX9_line_124 (by decide) rfl rfl (by decide) ?_
      refine s_callV (d' := d - 1) (bc' := 0) (bs' := 0) (as := [_]) dX9_line_126 vf_X9_130 (dd_ (by omega) (by decide)) ⟨Nat.zero_le _, Nat.zero_le _⟩ rfl rfl (Nat.le_of_ble_eq_true rfl) kl_7 rfl io_196 ?_
      refine k_isWord (j := 24 + 5) (by decide) (by omega) S (fun hhG19 ShG19 ehG19 => ?_)
      have S := ShG19
      have e16 := ehG19
      have hG19 := ShG19.1.1
      refine s_if_eq (tgt := 166) dX9_line_129 (by decide) (by first | exact hG19.2 _ _ | exact hG.2 _ _ | exact b01_in _ | assumption | exact ⟨by omega, by omega⟩) (fun c7 => ?_) (fun c7 => ?_)
      · have c7 := b01_0.mp c7
        exact ln_166 hd S e16 hT P k (by assumption) (by assumption) (by assumption) (by assumption) (by assumption) (by assumption) (by assumption) (by assumption)
      · have c7 := b01_n.mp c7
        refine s_aload_n dX9_line_132 rfl ?_
        refine s_aload_n dX9_line_133 rfl ?_
        refine s_ldcS (j := 3) (z := 1000 + ((24 + 3 : Nat) : Int)) dX9_line_134 (by decide) rfl rfl (by decide) ?_
        refine s_callV (d' := d - 1) (bc' := 0) (bs' := 0) (as := [_]) dX9_line_136 vf_X9_130 (dd_ (by omega) (by decide)) ⟨Nat.zero_le _, Nat.zero_le _⟩ rfl rfl (Nat.le_of_ble_eq_true rfl) kl_7 rfl io_196 ?_
        refine k_isWord (j := 24 + 3) (by decide) (by omega) S (fun hhG20 ShG20 ehG20 => ?_)
        have S := ShG20
        have e16 := ehG20
        have hG20 := ShG20.1.1
        refine s_if_eq (tgt := 146) dX9_line_139 (by decide) (by first | exact hG20.2 _ _ | exact hG.2 _ _ | exact b01_in _ | assumption | exact ⟨by omega, by omega⟩) (fun c8 => ?_) (fun c8 => ?_)
        · have c8 := b01_0.mp c8
          refine s_aload_n dX9_line_146 rfl ?_
          refine s_ldcS (j := 4) (z := 1000 + ((24 + 4 : Nat) : Int)) dX9_line_147 (by decide) rfl rfl (by decide) ?_
          refine s_callV (d' := d - 1) (bc' := 0) (bs' := 0) (as := [_]) dX9_line_149 vf_X9_130 (dd_ (by omega) (by decide)) ⟨Nat.zero_le _, Nat.zero_le _⟩ rfl rfl (Nat.le_of_ble_eq_true rfl) kl_7 rfl io_196 ?_
          refine k_isWord (j := 24 + 4) (by decide) (by omega) S (fun hhG21 ShG21 ehG21 => ?_)
          have S := ShG21
          have e16 := ehG21
          have hG21 := ShG21.1.1
          refine s_if_eq (tgt := 159) dX9_line_152 (by decide) (by first | exact hG21.2 _ _ | exact hG.2 _ _ | exact b01_in _ | assumption | exact ⟨by omega, by omega⟩) (fun c9 => ?_) (fun c9 => ?_)
          · have c9 := b01_0.mp c9
            refine s_iconst dX9_line_159 ?_
            refine s_callV (d' := d - 1) (bc' := 0) (bs' := 0) (as := [_]) dX9_line_160 vf_X9_248 (dd_ (by omega) (by decide)) ⟨Nat.zero_le _, Nat.zero_le _⟩ rfl rfl (Nat.le_of_ble_eq_true rfl) kl_7 rfl io_196 ?_
            have cw9 : iw_ T (nb_ T n a) (wl__ T n a) (24 + 5) := by
              first
                | assumption
                | exact absurd (by assumption : iw_ T (nb_ T n a) (wl__ T n a) (24 + 3)) (by assumption)
                | exact absurd (by assumption : iw_ T (nb_ T n a) (wl__ T n a) (24 + 4)) (by assumption)
            have fl0 := aw_fl S.2.1
            have Pb := ln_aw P S.2.1
            have Sb := ok_re S
            refine c2_X9_personLine (by omega) Sb e16 Pb cw9 (fun h22 X22 => ?_)
            have hG22 := X22.1.1
            have YY : LY_ n T h _ h22 := Or.inl (lx_tr fl0 X22)
            have hp := pl_5 (y := y) (by assumption : iw_ T (nb_ T n a) (wl__ T n a) (24 + 5))
            refine s_goto (tgt := 393) dX9_line_163 (by decide) ?_
            refine s_aload_n dX9_line_393 rfl ?_
            refine s_callV (d' := d - 1) (bc' := 0) (bs' := 0) (as := []) dX9_line_394 vf_X9_263 (dd_ (by omega) (by decide)) ⟨Nat.zero_le _, Nat.zero_le _⟩ rfl rfl (Nat.le_of_ble_eq_true rfl) kl_7 rfl io_196 ?_
            refine st_X9 (by omega) hT YY (fun h9 Z9 => ?_)
            rw [← hp] at Z9
            have hG23 := Z9.1.1
            have k9 := k h9 Z9
            exact s_return dX9_line_397 rfl k9
          · have c9 := b01_n.mp c9
            refine s_iconst dX9_line_155 ?_
            refine s_goto (tgt := 160) dX9_line_156 (by decide) ?_
            refine s_callV (d' := d - 1) (bc' := 0) (bs' := 0) (as := [_]) dX9_line_160 vf_X9_248 (dd_ (by omega) (by decide)) ⟨Nat.zero_le _, Nat.zero_le _⟩ rfl rfl (Nat.le_of_ble_eq_true rfl) kl_7 rfl io_196 ?_
            have cw9 : iw_ T (nb_ T n a) (wl__ T n a) (24 + 4) := by
              first
                | assumption
                | exact absurd (by assumption : iw_ T (nb_ T n a) (wl__ T n a) (24 + 3)) (by assumption)
                | exact absurd (by assumption : iw_ T (nb_ T n a) (wl__ T n a) (24 + 4)) (by assumption)
            have fl0 := aw_fl S.2.1
            have Pb := ln_aw P S.2.1
            have Sb := ok_re S
            refine c1_X9_personLine (by omega) Sb e16 Pb cw9 (fun h24 X24 => ?_)
            have hG24 := X24.1.1
            have YY : LY_ n T h _ h24 := Or.inl (lx_tr fl0 X24)
            have hp := pl_4 (y := y) (by assumption : iw_ T (nb_ T n a) (wl__ T n a) (24 + 4))
            refine s_goto (tgt := 393) dX9_line_163 (by decide) ?_
            refine s_aload_n dX9_line_393 rfl ?_
            refine s_callV (d' := d - 1) (bc' := 0) (bs' := 0) (as := []) dX9_line_394 vf_X9_263 (dd_ (by omega) (by decide)) ⟨Nat.zero_le _, Nat.zero_le _⟩ rfl rfl (Nat.le_of_ble_eq_true rfl) kl_7 rfl io_196 ?_
            refine st_X9 (by omega) hT YY (fun h9 Z9 => ?_)
            rw [← hp] at Z9
            have hG25 := Z9.1.1
            have k9 := k h9 Z9
            exact s_return dX9_line_397 rfl k9
        · have c8 := b01_n.mp c8
          refine s_iconst dX9_line_142 ?_
          refine s_goto (tgt := 160) dX9_line_143 (by decide) ?_
          refine s_callV (d' := d - 1) (bc' := 0) (bs' := 0) (as := [_]) dX9_line_160 vf_X9_248 (dd_ (by omega) (by decide)) ⟨Nat.zero_le _, Nat.zero_le _⟩ rfl rfl (Nat.le_of_ble_eq_true rfl) kl_7 rfl io_196 ?_
          have cw9 : iw_ T (nb_ T n a) (wl__ T n a) (24 + 3) := by
            first
              | assumption
              | exact absurd (by assumption : iw_ T (nb_ T n a) (wl__ T n a) (24 + 3)) (by assumption)
              | exact absurd (by assumption : iw_ T (nb_ T n a) (wl__ T n a) (24 + 4)) (by assumption)
          have fl0 := aw_fl S.2.1
          have Pb := ln_aw P S.2.1
          have Sb := ok_re S
          refine c0_X9_personLine (by omega) Sb e16 Pb cw9 (fun h26 X26 => ?_)
          have hG26 := X26.1.1
          have YY : LY_ n T h _ h26 := Or.inl (lx_tr fl0 X26)
          have hp := pl_3 (y := y) (by assumption : iw_ T (nb_ T n a) (wl__ T n a) (24 + 3))
          refine s_goto (tgt := 393) dX9_line_163 (by decide) ?_
          refine s_aload_n dX9_line_393 rfl ?_
          refine s_callV (d' := d - 1) (bc' := 0) (bs' := 0) (as := []) dX9_line_394 vf_X9_263 (dd_ (by omega) (by decide)) ⟨Nat.zero_le _, Nat.zero_le _⟩ rfl rfl (Nat.le_of_ble_eq_true rfl) kl_7 rfl io_196 ?_
          refine st_X9 (by omega) hT YY (fun h9 Z9 => ?_)
          rw [← hp] at Z9
          have hG27 := Z9.1.1
          have k9 := k h9 Z9
          exact s_return dX9_line_397 rfl k9
set_option maxRecDepth 100000 in
set_option maxHeartbeats 4000000 in
theorem c_X9_line (hd : 10 ≤ d) (S : OK9 n T h a h) (hT : ∀ k : Int, 0 ≤ k → k < n → -128 ≤ T k ∧ T k < 128) (P : LN_ y h) (k : ∀ h1 : PH, LZ_ n T h (pLine T n a y) h1 → Q.1 none nN h1) : Cl_ yX9_line MX9_line d bc bs [(2, 196)] nN h Q := by
  refine s_enter pn_X9 rfl (Nat.le_of_ble_eq_true rfl) (L := [(2, _), (9, 0), (9, 0)]) rfl ?_
  have hG := S.1.1
  have ab := ok_0 S
  have nb0 := nb_0 S
  have yc := ln_c P
  have wle : wl__ T n a = wn_ T n a - nb_ T n a := rfl
  refine s_aload_n dX9_line_0 rfl ?_
  refine s_ldcS (j := 0) (z := 1000 + ((24 + 0 : Nat) : Int)) dX9_line_1 (by decide) rfl rfl (by decide) ?_
  refine s_callV (d' := d - 1) (bc' := 0) (bs' := 0) (as := [_]) dX9_line_3 vf_X9_130 (dd_ (by omega) (by decide)) ⟨Nat.zero_le _, Nat.zero_le _⟩ rfl rfl (Nat.le_of_ble_eq_true rfl) kl_7 rfl io_196 ?_
  refine k_isWord (j := 24 + 0) (by decide) (by omega) S (fun hhG1 ShG1 ehG1 => ?_)
  have S := ShG1
  have e16 := ehG1
  have hG1 := ShG1.1.1
  refine s_if_eq (tgt := 16) dX9_line_6 (by decide) (by first | exact hG1.2 _ _ | exact hG.2 _ _ | exact b01_in _ | assumption | exact ⟨by omega, by omega⟩) (fun c1 => ?_) (fun c1 => ?_)
  · have c1 := b01_0.mp c1
    refine s_aload_n dX9_line_16 rfl ?_
    refine s_ldcS (j := 1) (z := 1000 + ((24 + 1 : Nat) : Int)) dX9_line_17 (by decide) rfl rfl (by decide) ?_
    refine s_callV (d' := d - 1) (bc' := 0) (bs' := 0) (as := [_]) dX9_line_19 vf_X9_130 (dd_ (by omega) (by decide)) ⟨Nat.zero_le _, Nat.zero_le _⟩ rfl rfl (Nat.le_of_ble_eq_true rfl) kl_7 rfl io_196 ?_
    refine k_isWord (j := 24 + 1) (by decide) (by omega) S (fun hhG2 ShG2 ehG2 => ?_)
    have S := ShG2
    have e16 := ehG2
    have hG2 := ShG2.1.1
    refine s_if_eq (tgt := 38) dX9_line_22 (by decide) (by first | exact hG2.2 _ _ | exact hG.2 _ _ | exact b01_in _ | assumption | exact ⟨by omega, by omega⟩) (fun c2 => ?_) (fun c2 => ?_)
    · have c2 := b01_0.mp c2
      refine s_aload_n dX9_line_38 rfl ?_
      refine s_ldcS (j := 2) (z := 1000 + ((24 + 2 : Nat) : Int)) dX9_line_39 (by decide) rfl rfl (by decide) ?_
      refine s_callV (d' := d - 1) (bc' := 0) (bs' := 0) (as := [_]) dX9_line_41 vf_X9_130 (dd_ (by omega) (by decide)) ⟨Nat.zero_le _, Nat.zero_le _⟩ rfl rfl (Nat.le_of_ble_eq_true rfl) kl_7 rfl io_196 ?_
      refine k_isWord (j := 24 + 2) (by decide) (by omega) S (fun hhG3 ShG3 ehG3 => ?_)
      have S := ShG3
      have e16 := ehG3
      have hG3 := ShG3.1.1
      refine s_if_eq (tgt := 60) dX9_line_44 (by decide) (by first | exact hG3.2 _ _ | exact hG.2 _ _ | exact b01_in _ | assumption | exact ⟨by omega, by omega⟩) (fun c3 => ?_) (fun c3 => ?_)
      · have c3 := b01_0.mp c3
        refine s_aload_n dX9_line_60 rfl ?_
        refine s_ldcS (j := 19) (z := 1000 + ((24 + 19 : Nat) : Int)) dX9_line_61 (by decide) rfl rfl (by decide) ?_
        refine s_callV (d' := d - 1) (bc' := 0) (bs' := 0) (as := [_]) dX9_line_63 vf_X9_130 (dd_ (by omega) (by decide)) ⟨Nat.zero_le _, Nat.zero_le _⟩ rfl rfl (Nat.le_of_ble_eq_true rfl) kl_7 rfl io_196 ?_
        refine k_isWord (j := 24 + 19) (by decide) (by omega) S (fun hhG4 ShG4 ehG4 => ?_)
        have S := ShG4
        have e16 := ehG4
        have hG4 := ShG4.1.1
        refine s_if_eq (tgt := 83) dX9_line_66 (by decide) (by first | exact hG4.2 _ _ | exact hG.2 _ _ | exact b01_in _ | assumption | exact ⟨by omega, by omega⟩) (fun c4 => ?_) (fun c4 => ?_)
        · have c4 := b01_0.mp c4
          refine s_aload_n dX9_line_83 rfl ?_
          refine s_ldcS (j := 20) (z := 1000 + ((24 + 20 : Nat) : Int)) dX9_line_84 (by decide) rfl rfl (by decide) ?_
          refine s_callV (d' := d - 1) (bc' := 0) (bs' := 0) (as := [_]) dX9_line_86 vf_X9_130 (dd_ (by omega) (by decide)) ⟨Nat.zero_le _, Nat.zero_le _⟩ rfl rfl (Nat.le_of_ble_eq_true rfl) kl_7 rfl io_196 ?_
          refine k_isWord (j := 24 + 20) (by decide) (by omega) S (fun hhG5 ShG5 ehG5 => ?_)
          have S := ShG5
          have e16 := ehG5
          have hG5 := ShG5.1.1
          refine s_if_eq (tgt := 105) dX9_line_89 (by decide) (by first | exact hG5.2 _ _ | exact hG.2 _ _ | exact b01_in _ | assumption | exact ⟨by omega, by omega⟩) (fun c5 => ?_) (fun c5 => ?_)
          · have c5 := b01_0.mp c5
            exact ln_105 hd S e16 hT P k (by assumption) (by assumption) (by assumption) (by assumption) (by assumption)
          · have c5 := b01_n.mp c5
            refine s_aload_n dX9_line_92 rfl ?_
            refine s_ldcS (j := 20) (z := 1000 + ((24 + 20 : Nat) : Int)) dX9_line_93 (by decide) rfl rfl (by decide) ?_
            refine s_bipush dX9_line_95 (by decide) ?_
            refine s_bipush dX9_line_97 (by decide) ?_
            refine s_callV (d' := d - 1) (bc' := 0) (bs' := 0) (as := [_, _, _]) dX9_line_99 vf_X9_244 (dd_ (by omega) (by decide)) ⟨Nat.zero_le _, Nat.zero_le _⟩ rfl rfl (Nat.le_of_ble_eq_true rfl) kl_7 rfl io_196 ?_
            have fl0 := aw_fl S.2.1
            have Pb := ln_aw P S.2.1
            have Sb := ok_re S
            refine c_X9_tells (J := 20) (w := 3) (hi := 99) (by decide) (by omega) (by omega) (by omega) ⟨by decide, by decide⟩ (fun v a b => by unfold zok; omega) (by omega) Sb Pb (by assumption) (fun h6 X6 => ?_)
            have hG6 := X6.1.1
            have YY : LY_ n T h _ h6 := Or.inl (lx_tr fl0 X6)
            have hp := pl_20 (y := y) (by assumption : iw_ T (nb_ T n a) (wl__ T n a) (24 + 20))
            refine s_goto (tgt := 393) dX9_line_102 (by decide) ?_
            refine s_aload_n dX9_line_393 rfl ?_
            refine s_callV (d' := d - 1) (bc' := 0) (bs' := 0) (as := []) dX9_line_394 vf_X9_263 (dd_ (by omega) (by decide)) ⟨Nat.zero_le _, Nat.zero_le _⟩ rfl rfl (Nat.le_of_ble_eq_true rfl) kl_7 rfl io_196 ?_
            refine st_X9 (by omega) hT YY (fun h9 Z9 => ?_)
            rw [← hp] at Z9
            have hG7 := Z9.1.1
            have k9 := k h9 Z9
            exact s_return dX9_line_397 rfl k9
        · have c4 := b01_n.mp c4
          refine s_aload_n dX9_line_69 rfl ?_
          refine s_ldcS (j := 19) (z := 1000 + ((24 + 19 : Nat) : Int)) dX9_line_70 (by decide) rfl rfl (by decide) ?_
          refine s_bipush dX9_line_72 (by decide) ?_
          refine s_sipush dX9_line_74 (by decide) ?_
          refine s_callV (d' := d - 1) (bc' := 0) (bs' := 0) (as := [_, _, _]) dX9_line_77 vf_X9_244 (dd_ (by omega) (by decide)) ⟨Nat.zero_le _, Nat.zero_le _⟩ rfl rfl (Nat.le_of_ble_eq_true rfl) kl_7 rfl io_196 ?_
          have fl0 := aw_fl S.2.1
          have Pb := ln_aw P S.2.1
          have Sb := ok_re S
          refine c_X9_tells (J := 19) (w := 2) (hi := 240) (by decide) (by omega) (by omega) (by omega) ⟨by decide, by decide⟩ (fun v a b => by unfold zok; omega) (by omega) Sb Pb (by assumption) (fun h8 X8 => ?_)
          have hG8 := X8.1.1
          have YY : LY_ n T h _ h8 := Or.inl (lx_tr fl0 X8)
          have hp := pl_19 (y := y) (by assumption : iw_ T (nb_ T n a) (wl__ T n a) (24 + 19))
          refine s_goto (tgt := 393) dX9_line_80 (by decide) ?_
          refine s_aload_n dX9_line_393 rfl ?_
          refine s_callV (d' := d - 1) (bc' := 0) (bs' := 0) (as := []) dX9_line_394 vf_X9_263 (dd_ (by omega) (by decide)) ⟨Nat.zero_le _, Nat.zero_le _⟩ rfl rfl (Nat.le_of_ble_eq_true rfl) kl_7 rfl io_196 ?_
          refine st_X9 (by omega) hT YY (fun h9 Z9 => ?_)
          rw [← hp] at Z9
          have hG9 := Z9.1.1
          have k9 := k h9 Z9
          exact s_return dX9_line_397 rfl k9
      · have c3 := b01_n.mp c3
        refine s_aload_n dX9_line_47 rfl ?_
        refine s_ldcS (j := 2) (z := 1000 + ((24 + 2 : Nat) : Int)) dX9_line_48 (by decide) rfl rfl (by decide) ?_
        refine s_bipush dX9_line_50 (by decide) ?_
        refine s_ldc dX9_line_52 kc_X9_240 ?_
        refine s_callV (d' := d - 1) (bc' := 0) (bs' := 0) (as := [_, _, _]) dX9_line_54 vf_X9_244 (dd_ (by omega) (by decide)) ⟨Nat.zero_le _, Nat.zero_le _⟩ rfl rfl (Nat.le_of_ble_eq_true rfl) kl_7 rfl io_196 ?_
        have fl0 := aw_fl S.2.1
        have Pb := ln_aw P S.2.1
        have Sb := ok_re S
        refine c_X9_tells (J := 2) (w := 1) (hi := 99999) (by decide) (by omega) (by omega) (by omega) ⟨by decide, by decide⟩ (fun v a b => by unfold zok; omega) (by omega) Sb Pb (by assumption) (fun h10 X10 => ?_)
        have hG10 := X10.1.1
        have YY : LY_ n T h _ h10 := Or.inl (lx_tr fl0 X10)
        have hp := pl_2 (y := y) (by assumption : iw_ T (nb_ T n a) (wl__ T n a) (24 + 2))
        refine s_goto (tgt := 393) dX9_line_57 (by decide) ?_
        refine s_aload_n dX9_line_393 rfl ?_
        refine s_callV (d' := d - 1) (bc' := 0) (bs' := 0) (as := []) dX9_line_394 vf_X9_263 (dd_ (by omega) (by decide)) ⟨Nat.zero_le _, Nat.zero_le _⟩ rfl rfl (Nat.le_of_ble_eq_true rfl) kl_7 rfl io_196 ?_
        refine st_X9 (by omega) hT YY (fun h9 Z9 => ?_)
        rw [← hp] at Z9
        have hG11 := Z9.1.1
        have k9 := k h9 Z9
        exact s_return dX9_line_397 rfl k9
    · have c2 := b01_n.mp c2
      refine s_aload_n dX9_line_25 rfl ?_
      refine s_ldcS (j := 1) (z := 1000 + ((24 + 1 : Nat) : Int)) dX9_line_26 (by decide) rfl rfl (by decide) ?_
      refine s_bipush dX9_line_28 (by decide) ?_
      refine s_ldc dX9_line_30 kc_X9_240 ?_
      refine s_callV (d' := d - 1) (bc' := 0) (bs' := 0) (as := [_, _, _]) dX9_line_32 vf_X9_244 (dd_ (by omega) (by decide)) ⟨Nat.zero_le _, Nat.zero_le _⟩ rfl rfl (Nat.le_of_ble_eq_true rfl) kl_7 rfl io_196 ?_
      have fl0 := aw_fl S.2.1
      have Pb := ln_aw P S.2.1
      have Sb := ok_re S
      refine c_X9_tells (J := 1) (w := 0) (hi := 99999) (by decide) (by omega) (by omega) (by omega) ⟨by decide, by decide⟩ (fun v a b => by unfold zok; omega) (by omega) Sb Pb (by assumption) (fun h12 X12 => ?_)
      have hG12 := X12.1.1
      have YY : LY_ n T h _ h12 := Or.inl (lx_tr fl0 X12)
      have hp := pl_1 (y := y) (by assumption : iw_ T (nb_ T n a) (wl__ T n a) (24 + 1))
      refine s_goto (tgt := 393) dX9_line_35 (by decide) ?_
      refine s_aload_n dX9_line_393 rfl ?_
      refine s_callV (d' := d - 1) (bc' := 0) (bs' := 0) (as := []) dX9_line_394 vf_X9_263 (dd_ (by omega) (by decide)) ⟨Nat.zero_le _, Nat.zero_le _⟩ rfl rfl (Nat.le_of_ble_eq_true rfl) kl_7 rfl io_196 ?_
      refine st_X9 (by omega) hT YY (fun h9 Z9 => ?_)
      rw [← hp] at Z9
      have hG13 := Z9.1.1
      have k9 := k h9 Z9
      exact s_return dX9_line_397 rfl k9
  · have c1 := b01_n.mp c1
    refine s_aload_n dX9_line_9 rfl ?_
    refine s_callV (d' := d - 1) (bc' := 0) (bs' := 0) (as := []) dX9_line_10 vf_X9_241 (dd_ (by omega) (by decide)) ⟨Nat.zero_le _, Nat.zero_le _⟩ rfl rfl (Nat.le_of_ble_eq_true rfl) kl_7 rfl io_196 ?_
    have fl0 := aw_fl S.2.1
    have Pb := ln_aw P S.2.1
    have Sb := ok_re S
    refine c_X9_thingLine (by omega) Sb e16 Pb (by assumption) (fun h14 X14 => ?_)
    have hG14 := X14.1.1
    have YY : LY_ n T h _ h14 := Or.inl (lx_tr fl0 X14)
    have hp := pl_0 (y := y) (by assumption : iw_ T (nb_ T n a) (wl__ T n a) (24 + 0))
    refine s_goto (tgt := 393) dX9_line_13 (by decide) ?_
    refine s_aload_n dX9_line_393 rfl ?_
    refine s_callV (d' := d - 1) (bc' := 0) (bs' := 0) (as := []) dX9_line_394 vf_X9_263 (dd_ (by omega) (by decide)) ⟨Nat.zero_le _, Nat.zero_le _⟩ rfl rfl (Nat.le_of_ble_eq_true rfl) kl_7 rfl io_196 ?_
    refine st_X9 (by omega) hT YY (fun h9 Z9 => ?_)
    rw [← hp] at Z9
    have hG15 := Z9.1.1
    have k9 := k h9 Z9
    exact s_return dX9_line_397 rfl k9
end X9W
