/-! a line that is right ends behind where it began: gifts, all lines -/
theorem pe_T {k n a : Int} {T : Int → Int} {y : PH} (a0 : 0 ≤ a) (h : a ≤ n) : pe_ a n (pgT k T n a y) := by
  have w0 := bw_ (T := T) (n := n) (a := a) (by omega) (by omega)
  have w1 := bw_ (T := T) (n := n) (a := wn_ T n a) (by omega) (by omega)
  unfold pgT
  exact pe_iC (fun _ => pe_iC (fun _ => pe_w (by omega)) (fun _ => pe_o (by omega) (by omega))) (fun _ => pe_o (by omega) (by omega))
theorem pe_M {k n a : Int} {T : Int → Int} {y : PH} (a0 : 0 ≤ a) (h : a ≤ n) : pe_ a n (pgM k T n a y) := by
  have w0 := bw_ (T := T) (n := n) (a := a) (by omega) (by omega)
  have w1 := bw_ (T := T) (n := n) (a := wn_ T n a) (by omega) (by omega)
  unfold pgM
  exact pe_iC (fun _ => pe_o (by omega) (by omega)) (fun _ => pe_iC (fun _ => pe_w (by omega)) (fun _ => pe_o (by omega) (by omega)))
theorem pe_R {k n a : Int} {T : Int → Int} {y : PH} (a0 : 0 ≤ a) (h : a ≤ n) : pe_ a n (pgR k T n a y) := by
  have w0 := bw_ (T := T) (n := n) (a := a) (by omega) (by omega)
  have w1 := bw_ (T := T) (n := n) (a := wn_ T n a) (by omega) (by omega)
  unfold pgR
  exact pe_iC (fun _ => pe_iC (fun _ => pe_iC (fun _ => pe_w (by omega)) (fun _ => pe_iC (fun _ => pe_w (by omega)) (fun _ => pe_o (by omega) (by omega)))) (fun _ => pe_o (by omega) (by omega))) (fun _ => pe_o (by omega) (by omega))
theorem pe_gift {k n a s : Int} {T : Int → Int} {y : PH} (a0 : 0 ≤ a) (h : a ≤ n) (s0 : 0 ≤ s) : pe_ a n (pGift k T n s a y) := by
  unfold pGift
  refine pe_iC (fun _ => pe_w s0) (fun _ => pe_iC (fun c q => absurd q c) (fun c => ?_))
  have c1 : (pgT k T n a y).1 = -1 := Classical.byContradiction fun q => c q
  have t := pe_T a0 h c1
  generalize pgT k T n a y = u at *
  refine pe_iC (fun c q => absurd q c) (fun c => ?_)
  have c2 : (pgM k T n u.2.1 y).1 = -1 := Classical.byContradiction fun q => c q
  have m := pe_M (a := u.2.1) (by omega) t.2 c2
  generalize pgM k T n u.2.1 y = v at *
  have w0 := bw_ (T := T) (n := n) (a := v.2.1) (by omega) (by omega)
  have w1 := bw_ (T := T) (n := n) (a := wn_ T n v.2.1) (by omega) (by omega)
  refine pe_iC (fun _ => pe_w (by omega)) (fun _ => pe_iC (fun _ => pe_w (by omega)) (fun _ => pe_iC (fun c q => absurd q c) (fun c => ?_)))
  have c3 : (pgR k T n (wn_ T n (wn_ T n v.2.1)) y).1 = -1 := Classical.byContradiction fun q => c q
  have r := pe_R (a := wn_ T n (wn_ T n v.2.1)) (by omega) (by omega) c3
  exact pe_o (by omega) r.2
theorem pe_body {n a s : Int} {j : Nat} {T : Int → Int} {y : PH} (a0 : 0 ≤ a) (h : a ≤ n) (s0 : 0 ≤ s) : pe_ a n (pBody j T n s a y) := by
  unfold pBody
  refine pe_iC (fun _ => pe_thing (s := s) a0 h s0) (fun _ => ?_)
  refine pe_iC (fun _ => pe_told0 (s := s) a0 h s0) (fun _ => ?_)
  refine pe_iC (fun _ => pe_told1 (s := s) a0 h s0) (fun _ => ?_)
  refine pe_iC (fun _ => pe_person1 (s := s) a0 h s0) (fun _ => ?_)
  refine pe_iC (fun _ => pe_person0 (s := s) a0 h s0) (fun _ => ?_)
  refine pe_iC (fun _ => pe_issue (s := s) a0 h s0) (fun _ => ?_)
  refine pe_iC (fun _ => pe_gift a0 h s0) (fun _ => ?_)
  refine pe_iC (fun _ => pe_gift a0 h s0) (fun _ => ?_)
  refine pe_iC (fun _ => pe_gift a0 h s0) (fun _ => ?_)
  refine pe_iC (fun _ => pe_gift a0 h s0) (fun _ => ?_)
  refine pe_iC (fun _ => pe_sold (s := s) a0 h s0) (fun _ => ?_)
  refine pe_iC (fun _ => pe_changed (s := s) a0 h s0) (fun _ => ?_)
  refine pe_iC (fun _ => pe_lost (s := s) a0 h s0) (fun _ => ?_)
  refine pe_iC (fun _ => pe_dead (s := s) a0 h s0) (fun _ => ?_)
  refine pe_iC (fun _ => pe_told2 (s := s) a0 h s0) (fun _ => ?_)
  refine pe_iC (fun _ => pe_told3 (s := s) a0 h s0) (fun _ => ?_)
  refine pe_iC (fun _ => pe_rule (s := s) a0 h s0) (fun _ => ?_)
  exact pe_w s0
theorem pe_line {n a : Int} {T : Int → Int} {y : PH} (a0 : 0 ≤ a) (h : a ≤ n) : (pLine T n a y).1 = -1 → a < (pLine T n a y).2.1 ∧ (pLine T n a y).2.1 ≤ n := by
  have w0 := bw_ (T := T) (n := n) (a := a) (by omega) (by omega)
  have q : pe_ (a + 1) n (pLine T n a y) := by
    unfold pLine
    refine pe_iC (fun _ => pe_w (by omega)) (fun _ => ?_)
    refine pe_end a0 (fun e => ?_)
    have b := pe_body (j := wi_ T (nb_ T n a) (wl__ T n a)) (s := nb_ T n a) (y := y) (a := wn_ T n a) (T := T) (n := n) (by omega) (by omega) (by omega) e
    exact ⟨by omega, b.2⟩
  intro e
  have b := q e
  omega
