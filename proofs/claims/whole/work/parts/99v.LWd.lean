/-! calls that throw nothing; what the law keeps from round to round -/
/-- the class, its text, the reference show one picture -/
def LI_ (h z : PH) : Prop := CR_ h z ∧ B5_ h ∧ MR_ h z
def MKP_ (Q : PQ) (h z : PH) (a : Int) : Prop := ∀ h' : PH, CR_ h' z → B5_ h' → FL h h' → Q.1 (some (0, a)) nN h'
theorem k3_in {k : Int} (h : 0 ≤ k ∧ k ≤ 3) : inI k := ⟨by omega, by omega⟩
section LWP
variable {d bc bs : Nat} {Q : PQ} {h z : PH}
theorem v_feed {a b c e g : Int} (hd : 15 ≤ d) (hbc : 700 ≤ bc) (hbs : 1400 ≤ bs) (C : CR_ h z) (B : B5_ h) (ha : inI a) (hb : inI b) (hc : inI c) (he : inI e) (hg : inI g) (k : MKP_ Q h (op_feed z a b c e g).2.2 (op_feed z a b c e g).2.1) : Cl_ yX8_feed MX8_feed d bc bs [(2, 0), (0, a), (0, b), (0, c), (0, e), (0, g)] nN h Q := by
  refine c_X8_feed (by omega) C (by assumption) (by assumption) (by assumption) (by assumption) (by assumption) (fun a1 h1 C1 f1 => ?_) (fun a1 => ?_)
  · have k9 := k
    unfold op_feed at k9
    rw [if_pos (by first | assumption | omega | exact ⟨a1⟩)] at k9
    exact k9 h1 C1 (b5_lo B (fun y => f1 195 y (by omega))) (fl_id (fun x y a => f1 x y (by omega)))
  · have k9 := k
    unfold op_feed at k9
    rw [if_neg (by first | omega | assumption | (intro q; exact absurd q (by assumption)))] at k9
    exact k9 h C B (fl_id (fun _ _ _ => rfl))
theorem v_end {n : Int} (hd : 15 ≤ d) (hbc : 700 ≤ bc) (hbs : 1400 ≤ bs) (C : CR_ h z) (B : B5_ h) (hn : inI n) (k : MKP_ Q h (op_end z n).2.2 (op_end z n).2.1) : Cl_ yX8_end MX8_end d bc bs [(2, 0), (0, n)] nN h Q := by
  refine c_X8_end C (by assumption) (fun a1 a2 h1 C1 f1 => ?_) (fun a1 => ?_)
  · have k9 := k
    unfold op_end at k9
    rw [if_pos (by first | assumption | omega | exact ⟨a1, a2⟩)] at k9
    exact k9 h1 C1 (b5_lo B (fun y => f1 195 y (by omega))) (fl_id (fun x y a => f1 x y (by omega)))
  · have k9 := k
    unfold op_end at k9
    rw [if_neg (by first | omega | assumption | (intro q; exact absurd q (by assumption)))] at k9
    exact k9 h C B (fl_id (fun _ _ _ => rfl))
theorem v_fault (hd : 15 ≤ d) (hbc : 700 ≤ bc) (hbs : 1400 ≤ bs) (C : CR_ h z) (B : B5_ h) (k : MKP_ Q h (op_fault z).2.2 (op_fault z).2.1) : Cl_ yX8_fault MX8_fault d bc bs [(2, 0)] nN h Q := by
  refine c_X8_fault (by omega) (by omega) (by omega) C (fun h1 C1 f1 => ?_)
  · have k9 := k
    unfold op_fault at k9
    exact k9 h1 C1 (b5_lo B (fun y => f1 195 y (by omega))) (fl_id (fun x y a => f1 x y (by omega)))
theorem v_undo (hd : 15 ≤ d) (hbc : 700 ≤ bc) (hbs : 1400 ≤ bs) (C : CR_ h z) (B : B5_ h) (k : MKP_ Q h (op_undo z).2.2 (op_undo z).2.1) : Cl_ yX8_undo MX8_undo d bc bs [(2, 0)] nN h Q := by
  refine c_X8_undo (by omega) (by omega) (by omega) C (fun a1 h1 C1 f1 => ?_) (fun a1 h1 C1 f1 => ?_)
  · have k9 := k
    unfold op_undo at k9
    rw [if_pos (by first | assumption | omega | exact ⟨a1⟩)] at k9
    exact k9 h1 C1 (b5_lo B (fun y => f1 195 y (by omega))) (fl_id (fun x y a => f1 x y (by omega)))
  · have k9 := k
    unfold op_undo at k9
    rw [if_neg (by first | omega | assumption | (intro q; exact absurd q (by assumption)))] at k9
    exact k9 h1 C1 (b5_lo B (fun y => f1 195 y (by omega))) (fl_id (fun x y a => f1 x y (by omega)))
theorem v_heir {v : Int} (hd : 15 ≤ d) (hbc : 700 ≤ bc) (hbs : 1400 ≤ bs) (C : CR_ h z) (B : B5_ h) (hv : inI v) (k : MKP_ Q h (op_heir z v).2.2 (op_heir z v).2.1) : Cl_ yX8_heir MX8_heir d bc bs [(2, 0), (0, v)] nN h Q := by
  refine c_X8_heir (by omega) (by omega) (by omega) C (by assumption) (fun h1 C1 f1 => ?_)
  · have k9 := k
    unfold op_heir at k9
    exact k9 h1 C1 (b5_lo B (fun y => f1 195 y (by omega))) (fl_id (fun x y a => f1 x y (by omega)))
theorem v_ranked {v : Int} (hd : 15 ≤ d) (hbc : 700 ≤ bc) (hbs : 1400 ≤ bs) (C : CR_ h z) (B : B5_ h) (hv : inI v) (k : MKP_ Q h (op_ranked z v).2.2 (op_ranked z v).2.1) : Cl_ yX8_ranked MX8_ranked d bc bs [(2, 0), (0, v)] nN h Q := by
  refine c_X8_ranked (by omega) (by omega) (by omega) C (by assumption) (fun h1 C1 f1 => ?_)
  · have k9 := k
    unfold op_ranked at k9
    exact k9 h1 C1 (b5_lo B (fun y => f1 195 y (by omega))) (fl_id (fun x y a => f1 x y (by omega)))
theorem v_octet {v : Int} (hd : 15 ≤ d) (hbc : 700 ≤ bc) (hbs : 1400 ≤ bs) (C : CR_ h z) (B : B5_ h) (hv : inI v) (k : MKP_ Q h (op_octet z v).2.2 (op_octet z v).2.1) : Cl_ yX8_octet MX8_octet d bc bs [(2, 0), (0, v)] nN h Q := by
  refine c_X8_octet (by omega) C B (by assumption) (fun h1 C1 f1 => ?_)
  · have k9 := k
    unfold op_octet at k9
    exact k9 h1 C1 (b5_lo B (fun y => f1 195 y (by omega))) (fl_id (fun x y a => f1 x y (by omega)))
theorem v_count {v : Int} (hd : 15 ≤ d) (hbc : 700 ≤ bc) (hbs : 1400 ≤ bs) (C : CR_ h z) (B : B5_ h) (hv : inI v) (k : MKP_ Q h (op_count z v).2.2 (op_count z v).2.1) : Cl_ yX8_count MX8_count d bc bs [(2, 0), (0, v)] nN h Q := by
  refine c_X8_count (by omega) C (by assumption) (fun h1 C1 f1 => ?_)
  · have k9 := k
    unfold op_count at k9
    exact k9 h1 C1 (b5_lo B (fun y => f1 195 y (by omega))) (fl_id (fun x y a => f1 x y (by omega)))
theorem o01_renounce {g v : Int} : (op_renounce z g v).2.1 = 0 ∨ (op_renounce z g v).2.1 = 1 := by
  unfold op_renounce
  repeat' split
  all_goals first | exact b01_or _ | exact Or.inl rfl | (unfold zitself; exact b01_or _)
theorem o01_itself {g : Int} : (op_itself z g).2.1 = 0 ∨ (op_itself z g).2.1 = 1 := by
  unfold op_itself
  repeat' split
  all_goals first | exact b01_or _ | exact Or.inl rfl | (unfold zitself; exact b01_or _)
end LWP
abbrev ML_law : PM := (RL, cL_law, 7, (some .boolean))
