/-! a line that is right ends behind where it began -/
/-- if u is right, it ends at b or behind, no farther than n -/
def pe_ (b n : Int) (u : OU) : Prop := u.1 = -1 → b ≤ u.2.1 ∧ u.2.1 ≤ n
theorem pe_iC {b n : Int} {c : Prop} {u v : OU} (hu : c → pe_ b n u) (hv : ¬ c → pe_ b n v) : pe_ b n (iC c u v) := by
  by_cases q : c
  · rw [iC_t q]
    exact hu q
  · rw [iC_f q]
    exact hv q
theorem pe_w {b n x e : Int} {y : PH} (h : 0 ≤ x) : pe_ b n (x, e, y) := fun q => absurd (show x = -1 from q) (by omega)
theorem pe_o {b n e : Int} {y : PH} (h : b ≤ e) (h2 : e ≤ n) : pe_ b n (-1, e, y) := fun _ => ⟨h, h2⟩
theorem bw_ {T : Int → Int} {n a : Int} (a0 : 0 ≤ a) (h : a ≤ n) : a ≤ nb_ T n a ∧ nb_ T n a ≤ wn_ T n a ∧ wn_ T n a ≤ n ∧ nb_ T n a ≤ dn_ T n a ∧ dn_ T n a ≤ n := by
  have b := nb_bd (T := T) h
  have w := we_bd (T := T) b.2
  have e := de_bd (T := T) b.2
  unfold wn_ dn_
  omega
theorem pe_end {T : Int → Int} {n b : Int} {u : OU} (b0 : 0 ≤ b) (h : pe_ b n u) : pe_ (b + 1) n (pEnd T n u) := by
  unfold pEnd
  refine pe_iC (fun c q => absurd q c) (fun c => ?_)
  have c1 : u.1 = -1 := Classical.byContradiction fun q => c q
  have hb := h c1
  have w := bw_ (T := T) (n := n) (a := u.2.1) (by omega) hb.2
  refine pe_iC (fun _ => pe_w (by omega)) (fun q => ?_)
  have oe : okE T n u.2.1 := Classical.byContradiction fun z => q z
  have o1 := oe.1
  have w2 := bw_ (T := T) (n := n) (a := nb_ T n u.2.1 + 1) (by omega) (by omega)
  exact pe_o (by omega) (by omega)
theorem pe_thing {T : Int → Int} {n a s : Int} {y : PH} (a0 : 0 ≤ a) (h : a ≤ n) (s0 : 0 ≤ s) : pe_ a n (pThing T n s a y) := by
  have w0 := bw_ (T := T) (n := n) (a := a) (by omega) (by omega)
  have w1 := bw_ (T := T) (n := n) (a := wn_ T n (a)) (by omega) (by omega)
  unfold pThing
  first
    | exact pe_iC (fun _ => pe_w (by omega)) (fun _ => pe_iC (fun _ => pe_w (by omega)) (fun _ => pe_iC (fun _ => pe_w (by omega)) (fun _ => pe_o (by omega) (by omega))))
theorem pe_told0 {T : Int → Int} {n a s : Int} {y : PH} (a0 : 0 ≤ a) (h : a ≤ n) (s0 : 0 ≤ s) : pe_ a n (pTold 0 99999 T n a y) := by
  have w0 := bw_ (T := T) (n := n) (a := a) (by omega) (by omega)
  unfold pTold
  first
    | exact pe_iC (fun _ => pe_w (by omega)) (fun _ => pe_o (by omega) (by omega))
theorem pe_told1 {T : Int → Int} {n a s : Int} {y : PH} (a0 : 0 ≤ a) (h : a ≤ n) (s0 : 0 ≤ s) : pe_ a n (pTold 1 99999 T n a y) := by
  have w0 := bw_ (T := T) (n := n) (a := a) (by omega) (by omega)
  unfold pTold
  first
    | exact pe_iC (fun _ => pe_w (by omega)) (fun _ => pe_o (by omega) (by omega))
theorem pe_told2 {T : Int → Int} {n a s : Int} {y : PH} (a0 : 0 ≤ a) (h : a ≤ n) (s0 : 0 ≤ s) : pe_ a n (pTold 2 240 T n a y) := by
  have w0 := bw_ (T := T) (n := n) (a := a) (by omega) (by omega)
  unfold pTold
  first
    | exact pe_iC (fun _ => pe_w (by omega)) (fun _ => pe_o (by omega) (by omega))
theorem pe_told3 {T : Int → Int} {n a s : Int} {y : PH} (a0 : 0 ≤ a) (h : a ≤ n) (s0 : 0 ≤ s) : pe_ a n (pTold 3 99 T n a y) := by
  have w0 := bw_ (T := T) (n := n) (a := a) (by omega) (by omega)
  unfold pTold
  first
    | exact pe_iC (fun _ => pe_w (by omega)) (fun _ => pe_o (by omega) (by omega))
theorem pe_person0 {T : Int → Int} {n a s : Int} {y : PH} (a0 : 0 ≤ a) (h : a ≤ n) (s0 : 0 ≤ s) : pe_ a n (pPerson 0 T n s a y) := by
  have w0 := bw_ (T := T) (n := n) (a := a) (by omega) (by omega)
  unfold pPerson
  first
    | exact pe_iC (fun _ => pe_w (by omega)) (fun _ => pe_iC (fun _ => pe_w (by omega)) (fun _ => pe_o (by omega) (by omega)))
theorem pe_person1 {T : Int → Int} {n a s : Int} {y : PH} (a0 : 0 ≤ a) (h : a ≤ n) (s0 : 0 ≤ s) : pe_ a n (pPerson 1 T n s a y) := by
  have w0 := bw_ (T := T) (n := n) (a := a) (by omega) (by omega)
  unfold pPerson
  first
    | exact pe_iC (fun _ => pe_w (by omega)) (fun _ => pe_iC (fun _ => pe_w (by omega)) (fun _ => pe_o (by omega) (by omega)))
theorem pe_issue {T : Int → Int} {n a s : Int} {y : PH} (a0 : 0 ≤ a) (h : a ≤ n) (s0 : 0 ≤ s) : pe_ a n (pIssue T n s a y) := by
  have w0 := bw_ (T := T) (n := n) (a := a) (by omega) (by omega)
  have w1 := bw_ (T := T) (n := n) (a := wn_ T n (a)) (by omega) (by omega)
  have w2 := bw_ (T := T) (n := n) (a := wn_ T n (wn_ T n (a))) (by omega) (by omega)
  unfold pIssue
  first
    | exact pe_iC (fun _ => pe_w (by omega)) (fun _ => pe_iC (fun _ => pe_w (by omega)) (fun _ => pe_iC (fun _ => pe_w (by omega)) (fun _ => pe_iC (fun _ => pe_w (by omega)) (fun _ => pe_o (by omega) (by omega)))))
theorem pe_sold {T : Int → Int} {n a s : Int} {y : PH} (a0 : 0 ≤ a) (h : a ≤ n) (s0 : 0 ≤ s) : pe_ a n (pSold T n a y) := by
  have w0 := bw_ (T := T) (n := n) (a := a) (by omega) (by omega)
  have w1 := bw_ (T := T) (n := n) (a := wn_ T n (a)) (by omega) (by omega)
  have w2 := bw_ (T := T) (n := n) (a := dn_ T n (wn_ T n (a))) (by omega) (by omega)
  have w3 := bw_ (T := T) (n := n) (a := wn_ T n (dn_ T n (wn_ T n (a)))) (by omega) (by omega)
  unfold pSold
  first
    | exact pe_iC (fun _ => pe_w (by omega)) (fun _ => pe_iC (fun _ => pe_w (by omega)) (fun _ => pe_iC (fun _ => pe_w (by omega)) (fun _ => pe_iC (fun _ => pe_w (by omega)) (fun _ => pe_o (by omega) (by omega)))))
theorem pe_changed {T : Int → Int} {n a s : Int} {y : PH} (a0 : 0 ≤ a) (h : a ≤ n) (s0 : 0 ≤ s) : pe_ a n (pChanged T n a y) := by
  have w0 := bw_ (T := T) (n := n) (a := a) (by omega) (by omega)
  have w1 := bw_ (T := T) (n := n) (a := wn_ T n (a)) (by omega) (by omega)
  unfold pChanged
  first
    | exact pe_iC (fun _ => pe_w (by omega)) (fun _ => pe_iC (fun _ => pe_w (by omega)) (fun _ => pe_o (by omega) (by omega)))
theorem pe_lost {T : Int → Int} {n a s : Int} {y : PH} (a0 : 0 ≤ a) (h : a ≤ n) (s0 : 0 ≤ s) : pe_ a n (pLost T n a y) := by
  have w0 := bw_ (T := T) (n := n) (a := a) (by omega) (by omega)
  have w1 := bw_ (T := T) (n := n) (a := wn_ T n (a)) (by omega) (by omega)
  have w2 := bw_ (T := T) (n := n) (a := wn_ T n (wn_ T n (a))) (by omega) (by omega)
  unfold pLost
  first
    | exact pe_iC (fun _ => pe_w (by omega)) (fun _ => pe_iC (fun _ => pe_w (by omega)) (fun _ => pe_iC (fun _ => pe_w (by omega)) (fun _ => pe_o (by omega) (by omega))))
theorem pe_dead {T : Int → Int} {n a s : Int} {y : PH} (a0 : 0 ≤ a) (h : a ≤ n) (s0 : 0 ≤ s) : pe_ a n (pDead T n a y) := by
  have w0 := bw_ (T := T) (n := n) (a := a) (by omega) (by omega)
  unfold pDead
  first
    | exact pe_iC (fun _ => pe_w (by omega)) (fun _ => pe_o (by omega) (by omega))
theorem pe_rule {T : Int → Int} {n a s : Int} {y : PH} (a0 : 0 ≤ a) (h : a ≤ n) (s0 : 0 ≤ s) : pe_ a n (pRule T n a y) := by
  have w0 := bw_ (T := T) (n := n) (a := a) (by omega) (by omega)
  unfold pRule
  first
    | exact pe_iC (fun _ => pe_w (by omega)) (fun _ => pe_o (by omega) (by omega))
