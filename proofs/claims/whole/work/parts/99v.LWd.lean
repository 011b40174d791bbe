/-! calls that throw nothing; what the law keeps from round to round -/
/-- the class, its text, the reference show one picture -/
def LI_ (h z : PH) : Prop := CR_ h z ∧ B5_ h ∧ MR_ h z
def MKP_ (Q : PQ) (h z : PH) (a : Int) : Prop := ∀ h' : PH, CR_ h' z → B5_ h' → FL h h' → Q.1 (some (0, a)) nN h'
theorem k3_in {k : Int} (h : 0 ≤ k ∧ k ≤ 3) : inI k := ⟨by omega, by omega⟩
section LWP
variable {d bc bs : Nat} {Q : PQ} {h z : PH}
theorem v_feed {a b c e g : Int} (hd : 15 ≤ d) (hbc : 700 ≤ bc) (hbs : 1400 ≤ bs) (C : CR_ h z) (B : B5_ h) (ha : inI a) (hb : inI b) (hc : inI c) (he : inI e) (hg : inI g) (k : MKP_ Q h (op_feed z a b c e g).2.2 (op_feed z a b c e g).2.1) : Cl_ yX8_feed MX8_feed d bc bs [(2, 0), (0, a), (0, b), (0, c), (0, e), (0, g)] nN h Q := by
  refine c_X8_feed (by omega) C (by assumption) (by assumption) (by assumption) (by assumption) (by assumption) (fun a1 h1 C1 f1 => ?_) (fun a1 => ?_)
  · have k9 := k
    unfold op_feed at k9
    rw [if_pos (by first | assumption | omega | exact ⟨a1⟩)] at k9
    exact k9 h1 C1 (b5_lo B (fun y => f1 195 y (by omega))) (fl_id (fun x y a => f1 x y (by omega)))
  · have k9 := k
    unfold op_feed at k9
    rw [if_neg (by first | omega | assumption | (intro q; exact absurd q (by assumption)))] at k9
    exact k9 h C B (fl_id (fun _ _ _ => rfl))
theorem v_end {n : Int} (hd : 15 ≤ d) (hbc : 700 ≤ bc) (hbs : 1400 ≤ bs) (C : CR_ h z) (B : B5_ h) (hn : inI n) (k : MKP_ Q h (op_end z n).2.2 (op_end z n).2.1) : Cl_ yX8_end MX8_end d bc bs [(2, 0), (0, n)] nN h Q := by
  refine c_X8_end C (by assumption) (fun a1 a2 h1 C1 f1 => ?_) (fun a1 => ?_)
  · have k9 := k
    unfold op_end at k9
    rw [if_pos (by first | assumption | omega | exact ⟨a1, a2⟩)] at k9
    exact k9 h1 C1 (b5_lo B (fun y => f1 195 y (by omega))) (fl_id (fun x y a => f1 x y (by omega)))
  · have k9 := k
    unfold op_end at k9
    rw [if_neg (by first | omega | assumption | (intro q; exact absurd q (by assumption)))] at k9
    exact k9 h C B (fl_id (fun _ _ _ => rfl))
theorem v_fault (hd : 15 ≤ d) (hbc : 700 ≤ bc) (hbs : 1400 ≤ bs) (C : CR_ h z) (B : B5_ h) (k : MKP_ Q h (op_fault z).2.2 (op_fault z).2.1) : Cl_ yX8_fault MX8_fault d bc bs [(2, 0)] nN h Q := by
  refine c_X8_fault (by omega) (by omega) (by omega) C (fun h1 C1 f1 => ?_)
  · have k9 := k
    unfold op_fault at k9
    exact k9 h1 C1 (b5_lo B (fun y => f1 195 y (by omega))) (fl_id (fun x y a => f1 x y (by omega)))
theorem v_undo (hd : 15 ≤ d) (hbc : 700 ≤ bc) (hbs : 1400 ≤ bs) (C : CR_ h z) (B : B5_ h) (k : MKP_ Q h (op_undo z).2.2 (op_undo z).2.1) : Cl_ yX8_undo MX8_undo d bc bs [(2, 0)] nN h Q := by
  refine c_X8_undo (by omega) (by omega) (by omega) C (fun a1 h1 C1 f1 => ?_) (fun a1 h1 C1 f1 => ?_)
  · have k9 := k
    unfold op_undo at k9
    rw [if_pos (by first | assumption | omega | exact ⟨a1⟩)] at k9
    exact k9 h1 C1 (b5_lo B (fun y => f1 195 y (by omega))) (fl_id (fun x y a => f1 x y (by omega)))
  · have k9 := k
    unfold op_undo at k9
    rw [if_neg (by first | omega | assumption | (intro q; exact absurd q (by assumption)))] at k9
    exact k9 h1 C1 (b5_lo B (fun y => f1 195 y (by omega))) (fl_id (fun x y a => f1 x y (by omega)))
theorem v_heir {v : Int} (hd : 15 ≤ d) (hbc : 700 ≤ bc) (hbs : 1400 ≤ bs) (C : CR_ h z) (B : B5_ h) (hv : inI v) (k : MKP_ Q h (op_heir z v).2.2 (op_heir z v).2.1) : Cl_ yX8_heir MX8_heir d bc bs [(2, 0), (0, v)] nN h Q := by
  refine c_X8_heir (by omega) (by omega) (by omega) C (by assumption) (fun h1 C1 f1 => ?_)
  · have k9 := k
    unfold op_heir at k9
    exact k9 h1 C1 (b5_lo B (fun y => f1 195 y (by omega))) (fl_id (fun x y a => f1 x y (by omega)))
theorem v_ranked {v : Int} (hd : 15 ≤ d) (hbc : 700 ≤ bc) (hbs : 1400 ≤ bs) (C : CR_ h z) (B : B5_ h) (hv : inI v) (k : MKP_ Q h (op_ranked z v).2.2 (op_ranked z v).2.1) : Cl_ yX8_ranked MX8_ranked d bc bs [(2, 0), (0, v)] nN h Q := by
  refine c_X8_ranked (by omega) (by omega) (by omega) C (by assumption) (fun h1 C1 f1 => ?_)
  · have k9 := k
    unfold op_ranked at k9
    exact k9 h1 C1 (b5_lo B (fun y => f1 195 y (by omega))) (fl_id (fun x y a => f1 x y (by omega)))
theorem v_octet {v : Int} (hd : 15 ≤ d) (hbc : 700 ≤ bc) (hbs : 1400 ≤ bs) (C : CR_ h z) (B : B5_ h) (hv : inI v) (k : MKP_ Q h (op_octet z v).2.2 (op_octet z v).2.1) : Cl_ yX8_octet MX8_octet d bc bs [(2, 0), (0, v)] nN h Q := by
  refine c_X8_octet (by omega) C B (by assumption) (fun h1 C1 f1 => ?_)
  · have k9 := k
    unfold op_octet at k9
    exact k9 h1 C1 (b5_lo B (fun y => f1 195 y (by omega))) (fl_id (fun x y a => f1 x y (by omega)))
theorem v_count {v : Int} (hd : 15 ≤ d) (hbc : 700 ≤ bc) (hbs : 1400 ≤ bs) (C : CR_ h z) (B : B5_ h) (hv : inI v) (k : MKP_ Q h (op_count z v).2.2 (op_count z v).2.1) : Cl_ yX8_count MX8_count d bc bs [(2, 0), (0, v)] nN h Q := by
  refine c_X8_count (by omega) C (by assumption) (fun h1 C1 f1 => ?_)
  · have k9 := k
    unfold op_count at k9
    exact k9 h1 C1 (b5_lo B (fun y => f1 195 y (by omega))) (fl_id (fun x y a => f1 x y (by omega)))
theorem o01_renounce {g v : Int} : (op_renounce z g v).2.1 = 0 ∨ (op_renounce z g v).2.1 = 1 := by
  unfold op_renounce
  repeat' split
  all_goals first | exact b01_or _ | exact Or.inl rfl | (unfold zitself; exact b01_or _)
theorem o01_itself {g : Int} : (op_itself z g).2.1 = 0 ∨ (op_itself z g).2.1 = 1 := by
  unfold op_itself
  repeat' split
  all_goals first | exact b01_or _ | exact Or.inl rfl | (unfold zitself; exact b01_or _)
end LWP
abbrev ML_law : PM := (RL, cL_law, 7, (some .boolean))
/-- what the law owes: true; it throws nothing -/
abbrev QL_ : PQ := (fun r _ _ => r = some (0, 1), fun _ _ _ => False)
theorem hQ_ : ∀ (E9 : String) (N' : Nat) (h' : PH), QL_.2 E9 N' h' → False := fun _ _ _ z => z
section LWQ
variable {E : EP} {M M' : PM} {hh : List (Nat × Nat × Nat × Nat)} {d d' bc bs bc' bs' n : Nat} {Q : PQ} {pc idx : Nat} {L st stk as : List PV} {N N' b1 s1 : Nat} {h : PH} {y : MethodName} {a : Int}
theorem f_callV {ci : Nat} (hQ : ∀ (E9 : String) (N' : Nat) (h' : PH), Q.2 E9 N' h' → False) (hd : decode M.2.1 pc = .ok (.invokevirtual idx, 3)) (vf : VF_ M.1 idx y M' n) (hdd : d' + 1 ≤ d ∧ 8 + (M'.2.2.1 + 11) + 60 * d' ≤ 60 * d) (hb : bc' ≤ bc ∧ bs' ≤ bs) (hn : as.length = n) (hst : stk = as.reverse ++ (2, a) :: st) (hcat : pcat_ st ≤ 8) (kl : Kl_ ci) (hy : uC_ ci = y.cls) (A : isO N a ci)
    (C : Cl_ y M' d' bc' bs' ((2, a) :: as) N h (fun r N' h' => SE_ E M d (bc - bc') (bs - bs') Q (pc + 3) L (r.toList ++ st) N' h', Q.2)) (h5 : nk5_ L = true := by rfl) (h6 : nk5_ st = true := by rfl) : SE_ E M d bc bs Q pc L stk N h := by
  intro l s0 D dA ad p e R s m args below meth c H locs cells slots mc ms ls hG hC hW hL
  exact s_backE (s_runV hG hC hW hL hd vf hdd hb hn hst hcat kl hy A C) hG hC hW.2 hL hb h5 h6 (fun _ _ _ z => z) (fun E9 N' h' _ _ _ _ _ _ z => (hQ E9 N' h' z).elim)
theorem f_callSX (hQ : ∀ (E9 : String) (N' : Nat) (h' : PH), Q.2 E9 N' h' → False) (hd : decode M.2.1 pc = .ok (.invokestatic idx, 3)) (sf : SX_ M.1 idx y M' hh n) (hdd : d' + 1 ≤ d ∧ 8 + (M'.2.2.1 + 11) + 60 * d' ≤ 60 * d) (hb : bc' ≤ bc ∧ bs' ≤ bs) (hn : as.length = n) (hst : stk = as.reverse ++ st) (hcat : pcat_ st ≤ 8)
    (C : CW_ (.codeWith y M'.2.1 M'.2.2.1 M'.2.2.2 hh) y d' bc' bs' as N h (fun r N' h' => SE_ E M d (bc - bc') (bs - bs') Q (pc + 3) L (r.toList ++ st) N' h', Q.2)) (h5 : nk5_ L = true := by rfl) (h6 : nk5_ st = true := by rfl) : SE_ E M d bc bs Q pc L stk N h := by
  intro l s0 D dA ad p e R s m args below meth c H locs cells slots mc ms ls hG hC hW hL
  have cw : vx_CSW R s args M.1 idx y M'.2.1 M'.2.2.1 M'.2.2.2 hh (.codeWith y M'.2.1 M'.2.2.1 M'.2.2.2 hh :: TBL) { frames := d', locals := 60 * d', cells := bc', slots := bs' } bc' bs' n := by
    refine ⟨⟨rfl, rfl, Nat.le_trans hdd.1 (cx_fr hC), Nat.le_trans hdd.2 (cx_lo hC), pay_in (cx_ts hC) (fun w hw => ?_), List.mem_cons_self⟩, cx_ts hC _ sf.2.1, cx_ts hC _ sf.1, sf.2.2.1, sf.2.2.2.1, cx_ts hC _ sf.2.2.2.2.1, cx_ts hC _ sf.2.2.2.2.2⟩
    rcases List.mem_cons.mp hw with rfl | hw
    · exact ⟨sf.2.1, tb_good _ sf.2.1⟩
    · exact ⟨hw, tb_good _ hw⟩
  have hr := vx_runSX (As := as.map (rv_ ad)) (rest := st.map (rv_ ad)) (g := F0 m pc ls (stk.map (rv_ ad))) (H := H) (locs := locs) (below := below) (meth := meth) (cells := cells) (slots := slots) (e := e) ⟨cx_ex hC, cx_cb hC, cx_ml hC, cx_own hC, cx_ts hC⟩ (C l s0 D dA ad hG) cw
    ⟨pc_bl, fun U hU hW' => ⟨rfl, cx_in hC hW', by rw [hU]; exact hW.1⟩⟩ rfl (by rw [List.length_map]; exact hn) hL.1 (by subst hst; simp) (lv_room (by rw [pcat_eq]; exact hcat)) hd (cx_f hC hb)
  exact s_backE hr hG hC hW.2 hL hb h5 h6 (fun _ _ _ z => z) (fun E9 N' h' _ _ _ _ _ _ z => (hQ E9 N' h' z).elim)
theorem f_callI (hQ : ∀ (E9 : String) (N' : Nat) (h' : PH), Q.2 E9 N' h' → False) (hEG : ∀ s0 a2 meth c, E s0 a2 meth c → Gi_ s0) (hd : decode M.2.1 pc = .ok (.invokespecial idx, 3)) (vf : IF_ M.1 idx y M' n) (hdd : d' + 1 ≤ d ∧ 8 + (M'.2.2.1 + 11) + 60 * d' ≤ 60 * d) (hb : b1 + bc' = bc ∧ s1 + bs' = bs) (hn : as.length = n) (hst : stk = as.reverse ++ (2, a) :: st) (hcat : pcat_ st ≤ 8) {h9 : PH}
    (C : ∀ Q9 : PQ, Q9.1 none N' h9 → CI_ y M' d' bc' bs' ((2, a) :: as) N h Q9) (k : SE_ E M d b1 s1 Q (pc + 3) L st N' h9) (h5 : nk5_ L = true := by rfl) (h6 : nk5_ st = true := by rfl) : SE_ E M d bc bs Q pc L stk N h := by
  intro l s0 D dA ad p e R s m args below meth c H locs cells slots mc ms ls hG hC hW hL
  have hb2 : bc' ≤ bc ∧ bs' ≤ bs := ⟨by omega, by omega⟩
  have cb := cf_cb (bc' := bc') (bs' := bs') hC vf.1 vf.2.1 hdd
  rw [vf.2.2.2.2] at cb
  have C9 := C (fun r N' h' => SE_ E M d (bc - bc') (bs - bs') Q (pc + 3) L (r.toList ++ st) N' h', Q.2) (SE_use rfl (by omega) (by omega) k) l s0 D dA ad hG (hEG _ _ _ _ (cx_e hC))
  rw [vf.2.2.2.2] at C9
  have hr := vx_runI (As := as.map (rv_ ad)) (rest := st.map (rv_ ad)) (b := ad.2 a) (g := F0 m pc ls (stk.map (rv_ ad))) (H := H) (locs := locs) (below := below) (meth := meth) (cells := cells) (slots := slots) (e := e) ⟨cx_ex hC, cx_cb hC, cx_ml hC, cx_own hC, cx_ts hC⟩ C9 ⟨cb, vf.2.2.2.1, cx_ts hC _ vf.2.2.1⟩
    ⟨pc_bl, fun U hU hW' => ⟨rfl, cx_in hC hW', by rw [hU]; exact hW.1⟩⟩ rfl (by rw [List.length_map]; exact hn) hL.1 (by subst hst; simp [rv_]) (lv_room (by rw [pcat_eq]; exact hcat)) hd (cx_f hC hb2)
  exact s_backE hr hG hC hW.2 hL hb2 h5 h6 (fun _ _ _ z => z) (fun E9 N' h' _ _ _ _ _ _ z => (hQ E9 N' h' z).elim)
end LWQ
