/-! reports: what they say; WillHouse writes them, counts, shows letters -/
/-- the picture with another report -/
def zwt (z : PH) (u : UT) : PH := fun x => if x = 54 then fun _ => u.1 else if x = 55 then u.2 else z x
theorem zwt_ne {z : PH} {u : UT} {x : Int} (a : ¬ x = 54) (b : ¬ x = 55) : zwt z u x = z x := by
  unfold zwt
  rw [if_neg a, if_neg b]
theorem zwt_zwt (z : PH) (u v : UT) : zwt (zwt z u) v = zwt z v := by
  funext x
  unfold zwt
  split
  · rfl
  · split <;> rfl
theorem zwt_E (z : PH) (u : UT) : ZE z (zwt z u) := ⟨zwt_ne (by decide) (by decide), zwt_ne (by decide) (by decide), zwt_ne (by decide) (by decide), zwt_ne (by decide) (by decide), zwt_ne (by decide) (by decide), zwt_ne (by decide) (by decide), zwt_ne (by decide) (by decide), zwt_ne (by decide) (by decide), zwt_ne (by decide) (by decide)⟩
/-- its letters are letters, no more than l -/
def OKT (u : UT) (l : Int) : Prop := (0 ≤ u.1 ∧ u.1 ≤ l) ∧ ∀ k : Int, 0 ≤ k → k < u.1 → 0 ≤ u.2 k ∧ u.2 k < 128
theorem okt_le {u : UT} {l m : Int} (o : OKT u l) (h : l ≤ m) : OKT u m := ⟨⟨o.1.1, Int.le_trans o.1.2 h⟩, o.2⟩
theorem okt_0 : OKT (0, fun _ => 0) 0 := ⟨⟨Int.le_refl _, Int.le_refl _⟩, fun k a b => absurd (show k < 0 from b) (by omega)⟩
theorem okt_c {u : UT} {l c : Int} (o : OKT u l) (c0 : 0 ≤ c) (c1 : c < 128) : OKT (tc_ u c) (l + 1) := by
  obtain ⟨⟨a, b⟩, o2⟩ := o
  refine ⟨⟨by show 0 ≤ u.1 + 1; omega, by show u.1 + 1 ≤ l + 1; omega⟩, fun k k0 k1 => ?_⟩
  show 0 ≤ (if k = u.1 then c else u.2 k) ∧ (if k = u.1 then c else u.2 k) < 128
  have k2 : k < u.1 + 1 := k1
  split
  · exact ⟨c0, c1⟩
  · exact o2 k k0 (by omega)
theorem okt_n {u : UT} {l v : Int} (o : OKT u l) : OKT (tn_ u v) (l + 10) := by
  obtain ⟨⟨a, b⟩, o2⟩ := o
  have nb := nd_bd v
  refine ⟨⟨by show 0 ≤ u.1 + nd_ v; omega, by show u.1 + nd_ v ≤ l + 10; omega⟩, fun k k0 k1 => ?_⟩
  show 0 ≤ (if u.1 ≤ k ∧ k < u.1 + nd_ v then 48 + dt_ v (nd_ v - 1 - (k - u.1)) else u.2 k) ∧ (if u.1 ≤ k ∧ k < u.1 + nd_ v then 48 + dt_ v (nd_ v - 1 - (k - u.1)) else u.2 k) < 128
  have k2 : k < u.1 + nd_ v := k1
  have d := dt_bd v (nd_ v - 1 - (k - u.1))
  split
  · omega
  · exact o2 k k0 (by omega)
/-- the word behind a dead one's name; the mark of what has no will -/
def td_ (u : UT) : UT := tc_ (tc_ (tc_ (tc_ (tc_ u 32) 100) 101) 97) 100
def ti_ (u : UT) : UT := tc_ (tc_ (tc_ u 32) 105) 58
theorem tc_at {u : UT} {c k : Int} : (tc_ u c).2 k = if k = u.1 then c else u.2 k := rfl
theorem tc_1 {u : UT} {c : Int} : (tc_ u c).1 = u.1 + 1 := rfl
theorem td_eq (u : UT) : tt_ u (fun i => (txb_ 47).getD i 0) (txb_ 47).length = td_ u := by
  have hl : (((txb_ 47).length : Nat) : Int) = 5 := by decide +kernel
  rw [hl]
  refine Prod.ext (by simp only [tt_, td_, tc_1]; omega) (funext fun k => ?_)
  show (if u.1 ≤ k ∧ k < u.1 + 5 then (txb_ 47).getD (k - u.1).toNat 0 else u.2 k) = _
  unfold td_
  simp only [tc_at, tc_1]
  rcases (by omega : (k < u.1 ∨ u.1 + 5 ≤ k) ∨ k = u.1 ∨ k = u.1 + 1 ∨ k = u.1 + 2 ∨ k = u.1 + 3 ∨ k = u.1 + 4) with e | e | e | e | e | e
  · repeat' split
    all_goals first | rfl | omega
  · have hj : (txb_ 47).getD (k - u.1).toNat 0 = 32 := by
      rw [show (k - u.1).toNat = 0 by omega]
      decide +kernel
    rw [hj]
    repeat' split
    all_goals first | rfl | omega
  · have hj : (txb_ 47).getD (k - u.1).toNat 0 = 100 := by
      rw [show (k - u.1).toNat = 1 by omega]
      decide +kernel
    rw [hj]
    repeat' split
    all_goals first | rfl | omega
  · have hj : (txb_ 47).getD (k - u.1).toNat 0 = 101 := by
      rw [show (k - u.1).toNat = 2 by omega]
      decide +kernel
    rw [hj]
    repeat' split
    all_goals first | rfl | omega
  · have hj : (txb_ 47).getD (k - u.1).toNat 0 = 97 := by
      rw [show (k - u.1).toNat = 3 by omega]
      decide +kernel
    rw [hj]
    repeat' split
    all_goals first | rfl | omega
  · have hj : (txb_ 47).getD (k - u.1).toNat 0 = 100 := by
      rw [show (k - u.1).toNat = 4 by omega]
      decide +kernel
    rw [hj]
    repeat' split
    all_goals first | rfl | omega
theorem ti_eq (u : UT) : tt_ u (fun i => (txb_ 48).getD i 0) (txb_ 48).length = ti_ u := by
  have hl : (((txb_ 48).length : Nat) : Int) = 3 := by decide +kernel
  rw [hl]
  refine Prod.ext (by simp only [tt_, ti_, tc_1]; omega) (funext fun k => ?_)
  show (if u.1 ≤ k ∧ k < u.1 + 3 then (txb_ 48).getD (k - u.1).toNat 0 else u.2 k) = _
  unfold ti_
  simp only [tc_at, tc_1]
  rcases (by omega : (k < u.1 ∨ u.1 + 3 ≤ k) ∨ k = u.1 ∨ k = u.1 + 1 ∨ k = u.1 + 2) with e | e | e | e
  · repeat' split
    all_goals first | rfl | omega
  · have hj : (txb_ 48).getD (k - u.1).toNat 0 = 32 := by
      rw [show (k - u.1).toNat = 0 by omega]
      decide +kernel
    rw [hj]
    repeat' split
    all_goals first | rfl | omega
  · have hj : (txb_ 48).getD (k - u.1).toNat 0 = 105 := by
      rw [show (k - u.1).toNat = 1 by omega]
      decide +kernel
    rw [hj]
    repeat' split
    all_goals first | rfl | omega
  · have hj : (txb_ 48).getD (k - u.1).toNat 0 = 58 := by
      rw [show (k - u.1).toNat = 2 by omega]
      decide +kernel
    rw [hj]
    repeat' split
    all_goals first | rfl | omega
theorem okt_d {u : UT} {l : Int} (o : OKT u l) : OKT (td_ u) (l + 5) := okt_le (okt_c (okt_c (okt_c (okt_c (okt_c o (by decide) (by decide)) (by decide) (by decide)) (by decide) (by decide)) (by decide) (by decide)) (by decide) (by decide)) (by omega)
theorem okt_i {u : UT} {l : Int} (o : OKT u l) : OKT (ti_ u) (l + 3) := okt_le (okt_c (okt_c (okt_c o (by decide) (by decide)) (by decide) (by decide)) (by decide) (by decide)) (by omega)
/-- the report on p: his name, .. -/
def rnm (z : PH) (p : Int) : Nat → UT
  | 0 => (0, fun _ => 0)
  | m + 1 => tc_ (rnm z p m) (z (30 + p) m)
def rdd (z : PH) (p : Int) (u : UT) : UT := if zdd z p = 0 then u else td_ u
/-- .. a gift, m gifts from g on, .. -/
noncomputable def rg1 (z : PH) (p g : Int) (u : UT) : UT := if 0 < ztk z g p then tn_ (tc_ (tn_ (tc_ u 32) g) 58) (ztk z g p) else u
noncomputable def rgf (z : PH) (p : Int) : Nat → Int → UT → UT
  | 0, _, u => u
  | m + 1, g, u => rgf z p m (g + 1) (rg1 z p g u)
noncomputable def rih (z : PH) (p : Int) (u : UT) : UT := if 0 < zih z p then tn_ (ti_ u) (zih z p) else u
noncomputable def rhd (z : PH) (p : Int) : UT := rdd z p (tn_ (tc_ (rnm z p (z 11 p).toNat) 32) (zta z p))
noncomputable def rep (z : PH) (p : Int) : UT := rih z p (rgf z p (z 0 2).toNat 0 (rhd z p))
/-- the reference's cells are as they were, whatever is written -/
def FD (h h' : PH) : Prop := ∀ x y : Int, 196 ≤ x → h' x y = h x y
theorem FD.rf (h : PH) : FD h h := fun _ _ _ => rfl
theorem FD.b {h h1 h2 : PH} (a : FD h h1) (b : FB h1 h2) : FD h h2 := fun x y hx => by rw [b x (by omega)]; exact a x y hx
theorem FD.c {h h1 h2 : PH} (a : FD h h1) (b : FC h1 h2) : FD h h2 := fun x y hx => (b x y (by omega)).trans (a x y hx)
theorem tw_fc {h h1 : PH} {u : UT} (T : TW_ h u) (hG : G h1) (f : FC h h1) : TW_ h1 u := by
  obtain ⟨-, B, m, en, el⟩ := T
  have e : ∀ y : Int, h1 195 y = h 195 y := fun y => f 195 y (by omega)
  refine ⟨hG, ?_, by rw [e]; exact m, by rw [e]; exact en, fun k k0 k1 => by rw [e]; exact el k k0 k1⟩
  unfold B5_
  rw [e, e]
  exact ⟨B.1, B.2.1, fun k k0 k1 => by rw [e]; exact B.2.2 k k0 k1⟩
theorem pt_fc {bc bs : Nat} {h h1 : PH} (p : PT_ bc bs h) (f : FC h h1) : PT_ bc bs h1 := by
  unfold PT_
  rw [f 195 (-1) (by omega)]
  exact p
theorem zb_tx {z : PH} {u : UT} {l : Int} (I : ZI z) (B : ZB z) (o : OKT u l) (hl : l ≤ 300) : ZB (zwt z u) := by
  obtain ⟨d1, d2, d3, d4, d5, d6, d7, d8, d9⟩ := B
  have hT := I.2.1
  have hP := I.2.2.1
  have e : ∀ x : Int, ¬ x = 54 → ¬ x = 55 → zwt z u x = z x := fun x a b => zwt_ne a b
  have e54 : zwt z u 54 0 = u.1 := rfl
  have e55 : zwt z u 55 = u.2 := rfl
  refine ⟨by rw [e 50 (by omega) (by omega)]; exact d1, by rw [e 51 (by omega) (by omega)]; exact d2, by rw [e 52 (by omega) (by omega)]; exact d3, ?_, ?_, by rw [e 53 (by omega) (by omega)]; exact d6, ?_, by rw [e54]; exact ⟨o.1.1, by have := o.1.2; omega⟩, by rw [e54, e55]; exact o.2⟩
  · rw [e 0 (by omega) (by omega), e 10 (by omega) (by omega)]
    intro t a b
    rw [e (20 + t) (by omega) (by omega)]
    exact d4 t a b
  · rw [e 0 (by omega) (by omega), e 11 (by omega) (by omega)]
    intro t a b
    rw [e (30 + t) (by omega) (by omega)]
    exact d5 t a b
  · rw [e 53 (by omega) (by omega)]
    intro j a b
    rw [e (60 + j) (by omega) (by omega)]
    exact d7 j a b
theorem cr_tx {h h1 z : PH} {u : UT} {l : Int} (C : CR_ h z) (T : TW_ h1 u) (o : OKT u l) (hl : l ≤ 300) (f : FB h h1) : CR_ h1 (zwt z u) := by
  obtain ⟨-, c1, c2, c3, c4, c5, c6, c7, c8, c9, c10⟩ := C
  obtain ⟨hG, B, m, en, el⟩ := T
  have F : ∀ x k : Int, x ≠ 195 → h1 x k = h x k := fun x k hx => congrFun (f x hx) k
  have e : ∀ x : Int, ¬ x = 54 → ¬ x = 55 → zwt z u x = z x := fun x a b => zwt_ne a b
  have EE := zwt_E z u
  have hT := c1.2.1
  have hP := c1.2.2.1
  have e3 : h1 0 3 = h 0 3 := F 0 3 (by omega)
  have w3 : h 0 3 = 3 ∨ h 0 3 = 42 := by omega
  refine ⟨hG, zi_e EE c1, zb_tx c1 c2 o hl, by rw [e3, F 2 0 (by omega)]; exact c3, ?_, ?_, ⟨by rw [F _ _ (by omega), e 50 (by omega) (by omega)]; exact c6.1, fun k a b => by rw [F _ _ (by omega), e 51 (by omega) (by omega)]; exact c6.2 k a b⟩, by rw [F _ _ (by omega), e 52 (by omega) (by omega)]; exact c7, ?_, ?_, ?_⟩
  · rw [e3]
    exact pr_e EE (PR_to c4 (fun x k a b => F x k (by omega)) (fun k => F _ _ (by omega)))
  · rw [e3]
    refine ⟨fun t a b => ?_, fun t a b => ?_⟩
    · rw [e 0 (by omega) (by omega)] at b
      have q := c5.1 t a b
      refine ⟨by rw [F _ _ (by omega), e 10 (by omega) (by omega)]; exact q.1, fun j j0 j1 => ?_⟩
      rw [e 10 (by omega) (by omega)] at j1
      rw [F _ _ (by omega), e (20 + t) (by omega) (by omega)]
      exact q.2 j j0 j1
    · rw [e 0 (by omega) (by omega)] at b
      have q := c5.2 t a b
      refine ⟨by rw [F _ _ (by omega), e 11 (by omega) (by omega)]; exact q.1, fun j j0 j1 => ?_⟩
      rw [e 11 (by omega) (by omega)] at j1
      rw [F _ _ (by omega), e (30 + t) (by omega) (by omega)]
      exact q.2 j j0 j1
  · obtain ⟨a1, a2, a3⟩ := c8
    refine ⟨by rw [F _ _ (by omega), e 53 (by omega) (by omega)]; exact a1, by rw [F _ _ (by omega)]; exact a2, fun j k j0 j1 k0 k1 => ?_⟩
    rw [e 53 (by omega) (by omega)] at j1
    rw [F 81 1 (by omega), F _ _ (by omega), e 53 (by omega) (by omega), e (60 + j) (by omega) (by omega)]
    exact a3 j k j0 j1 k0 k1
  · unfold CS_
    show h1 195 0 = u.1 ∧ (∀ k : Int, 0 ≤ k → k < u.1 → h1 195 (10 + k) = u.2 k) ∧ 16 ≤ h1 195 (-1) ∧ h1 195 (-1) ≤ 602 ∧ u.1 ≤ h1 195 (-1) ∧ (h1 195 1 = 0 ∨ h1 195 1 = 1)
    exact ⟨en, el, B.1.1, B.1.2, by rw [← en]; exact B.2.1.2, m⟩
  · rw [CD_, F 0 7 (by omega), e3]
    refine ⟨c10.1, fun q => ?_⟩
    obtain ⟨a1, a2⟩ := c10.2 q
    exact ⟨by rw [F _ _ (by omega)]; exact a1, rd_e EE (RD_to a2 c1 (fun x k a b => F x k (by omega)))⟩
section X8W
variable {M : PM} {d bc bs : Nat} {Q : PQ} {pc idx : Nat} {L st : List PV} {h h0 z : PH} {u : UT}
theorem s_apz (hd : decode M.2.1 pc = .ok (.invokevirtual idx, 3)) (vf : VF_ M.1 idx yJ4_setLength_d00df MJ4_setLength_d00df 1) (d7 : 6 ≤ d) (B : B5_ h) (hG : G h) (m : h 195 1 = 0 ∨ h 195 1 = 1) (hcat : pcat_ st ≤ 8) (kk : ∀ h1 : PH, TW_ h1 (0, fun _ => 0) → FB h h1 → h1 195 (-1) = h 195 (-1) → S_ M d bc bs Q (pc + 3) L st nN h1) (h5 : nk5_ L = true := by rfl) (h6 : nk5_ st = true := by rfl) : S_ M d bc bs Q pc L ((0, 0) :: (2, 195) :: st) nN h := by
  refine e_callB (d' := d - 1) (bc' := 0) (bs' := 0) (as := [(0, 0)]) nh_0 hd (bf_v vf rfl) (dd_ (by omega) (by decide)) ⟨Nat.zero_le _, Nat.zero_le _⟩ rfl rfl hcat ?_ h5 h6
  exact c_J4_setLength (by omega) B hG m kk
theorem s_apc {c : Int} (hd : decode M.2.1 pc = .ok (.invokevirtual idx, 3)) (vf : VF_ M.1 idx yJ4_append_cf468 MJ4_append_cf468 1) (d7 : 6 ≤ d) (p : PT_ bc bs h) (T : TW_ h u) (c0 : 0 ≤ c) (c1 : c < 128) (hl : u.1 + 1 ≤ 300) (hcat : pcat_ st ≤ 8) (kk : ∀ (bc' bs' : Nat) (h1 : PH), PT_ bc' bs' h1 → TW_ h1 (tc_ u c) → FB h h1 → S_ M d bc' bs' Q (pc + 3) L ((2, 195) :: st) nN h1) (h5 : nk5_ L = true := by rfl) (h6 : nk5_ st = true := by rfl) : S_ M d bc bs Q pc L ((0, c) :: (2, 195) :: st) nN h := by
  have pe := pt_eh (q := u.1 + 1) p T.2.1 hl (h' := eh_ h (u.1 + 1)) rfl
  refine e_callB (d' := d - 1) (bc' := eb_ h (u.1 + 1)) (bs' := es_ h (u.1 + 1)) (as := [(0, c)]) nh_0 hd (bf_v vf rfl) (dd_ (by omega) (by decide)) pe.1 rfl rfl hcat ?_ h5 h6
  exact c_J4_apc (by omega) T c0 c1 hl (Nat.le_refl _) (Nat.le_refl _) (fun h1 t1 f1 e1 => kk _ _ h1 (pt_eh p T.2.1 hl e1).2 t1 f1)
theorem s_apn {v : Int} (hd : decode M.2.1 pc = .ok (.invokevirtual idx, 3)) (vf : VF_ M.1 idx yJ4_append_bf812 MJ4_append_bf812 1) (d7 : 6 ≤ d) (p : PT_ bc bs h) (T : TW_ h u) (v0 : 0 ≤ v) (v1 : v < 2147483648) (hl : u.1 + 10 ≤ 300) (hcat : pcat_ st ≤ 8) (kk : ∀ (bc' bs' : Nat) (h1 : PH), PT_ bc' bs' h1 → TW_ h1 (tn_ u v) → FB h h1 → S_ M d bc' bs' Q (pc + 3) L ((2, 195) :: st) nN h1) (h5 : nk5_ L = true := by rfl) (h6 : nk5_ st = true := by rfl) : S_ M d bc bs Q pc L ((0, v) :: (2, 195) :: st) nN h := by
  have nb := nd_bd v
  have pe := pt_eh (q := u.1 + nd_ v) p T.2.1 (by omega) (h' := eh_ h (u.1 + nd_ v)) rfl
  refine e_callB (d' := d - 1) (bc' := eb_ h (u.1 + nd_ v)) (bs' := es_ h (u.1 + nd_ v)) (as := [(0, v)]) nh_0 hd (bf_v vf rfl) (dd_ (by omega) (by decide)) pe.1 rfl rfl hcat ?_ h5 h6
  exact c_J4_apn (by omega) T v0 v1 (by omega) (Nat.le_refl _) (Nat.le_refl _) (fun h1 t1 f1 e1 => kk _ _ h1 (pt_eh p T.2.1 (by omega) e1).2 t1 f1)
theorem s_aps {j : Nat} (hj : j < 49) (hd : decode M.2.1 pc = .ok (.invokevirtual idx, 3)) (vf : VF_ M.1 idx yJ4_append_15ec4 MJ4_append_15ec4 1) (d7 : 7 ≤ d) (p : PT_ bc bs h) (T : TW_ h u) (hl : u.1 + 8 ≤ 300) (hcat : pcat_ st ≤ 8) (kk : ∀ (bc' bs' : Nat) (h1 : PH), PT_ bc' bs' h1 → TW_ h1 (tt_ u (fun i => (txb_ j).getD i 0) (txb_ j).length) → FB h h1 → S_ M d bc' bs' Q (pc + 3) L ((2, 195) :: st) nN h1) (h5 : nk5_ L = true := by rfl) (h6 : nk5_ st = true := by rfl) : S_ M d bc bs Q pc L ((2, 1000 + j) :: (2, 195) :: st) nN h := by
  have tl := (txs_ok j hj).1
  have pe := pt_eh (q := u.1 + (txb_ j).length) p T.2.1 (by omega) (h' := eh_ h (u.1 + (txb_ j).length)) rfl
  refine e_callB (d' := d - 1) (bc' := eb_ h (u.1 + (txb_ j).length)) (bs' := es_ h (u.1 + (txb_ j).length)) (as := [(2, 1000 + (j : Int))]) nh_0 hd (bf_v vf rfl) (dd_ (by omega) (by decide)) pe.1 rfl rfl hcat ?_ h5 h6
  exact c_J4_aps hj (by omega) T (by omega) (Nat.le_refl _) (Nat.le_refl _) (fun h1 t1 f1 e1 => kk _ _ h1 (pt_eh p T.2.1 (by omega) e1).2 t1 f1)
set_option maxRecDepth 100000 in
set_option maxHeartbeats 4000000 in
theorem lp_X8_wrA  {z h0 : PH} (hd : 10 ≤ d) {p : Int} (p0 : 0 ≤ p) (p1 : p < z 0 1) (b11 : 1 ≤ z 11 p ∧ z 11 p ≤ 6) (bL : ∀ j : Int, 0 ≤ j → j < z 11 p → 97 ≤ z (30 + p) j ∧ z (30 + p) j ≤ 122) (K : ∀ (i : Int) (bc bs : Nat) (h : PH), OKT (rnm z p (z 11 p).toNat) 6 → CR_ h (zwt z (rnm z p (z 11 p).toNat)) → TW_ h (rnm z p (z 11 p).toNat) → PT_ bc bs h → FD h0 h → S_ MX8_write d bc bs Q 58 [(2, 0), (0, p), (0, i), (9, 0)] [] nN h) : ∀ (m : Nat) (i : Int) (u : UT) (bc bs : Nat) (h : PH), (0 ≤ i) → (i + m = z 11 p) → (u = rnm z p i.toNat) → (OKT u i) → (CR_ h (zwt z u)) → (TW_ h u) → (PT_ bc bs h) → (FD h0 h) → S_ MX8_write d bc bs Q 15 [(2, 0), (0, p), (0, i), (9, 0)] [] nN h := by
  intro m
  induction m with
  | zero =>
    intro i u bc bs h i0 im hu ok C T pt fd
    have hG := cr_g C
    have I := cr_i C
    obtain ⟨w, hw, W, hwf, P, CN⟩ := cr_w C
    have z0 : zwt z u 0 = z 0 := zwt_ne (by omega) (by omega)
    have z11 : zwt z u 11 = z 11 := zwt_ne (by omega) (by omega)
    have hPz := I.2.2.1
    rw [z0] at hPz
    have bL0 : 0 ≤ u.1 := ok.1.1
    refine s_iload_n dX8_write_15 rfl ?_
    refine s_aload_n dX8_write_16 rfl ?_
    refine s_getr dX8_write_17 fl_X8_25 kl_6 (by decide) rfl io_0 (z := 3) rfl (by first | exact hw | (simp (disch := omega) only [hs_same, hs_ne, fl_in, fl_ne, cp_inn, cp_nee]; exact hw)) (W).1 ?_
    refine s_getr dX8_write_20 fl_X8_105 kl_5 (by decide) rfl W (z := 3) rfl (rf_5_3 hG.1 W) (rk_5_3 W).1 ?_
    refine s_getr dX8_write_23 fl_X8_363 kl_2 (by decide) rfl (rk_5_3 W) (z := 0) rfl (rf_2_0 hG.1 (rk_5_3 W)) (rk_2_0 (rk_5_3 W)).1 ?_
    refine s_iload_n dX8_write_26 rfl ?_
    refine s_iaload dX8_write_27 (rk_2_0 (rk_5_3 W)) (by omega) (by rw [(nl_w W).2]; omega) ?_
    rw [show w + 14 + 1 = w + 15 by omega, (CN.2 p p0 (by rw [z0]; exact p1)).1, z11]
    refine s_icmp_ge (tgt := 58) dX8_write_28 (by decide) (by first | exact hG.2 _ _ | exact b01_in _ | assumption | exact ⟨by omega, by omega⟩) (by first | exact hG.2 _ _ | exact b01_in _ | assumption | exact ⟨by omega, by omega⟩) (fun c1 => ?_) (fun c1 => ?_)
    · have e : i = z 11 p := by omega
      rw [e] at hu
      rw [hu] at ok C T
      exact K i bc bs h (okt_le ok (by omega)) C T pt fd
    · exact absurd c1 (by omega)
  | succ m ih =>
    intro i u bc bs h i0 im hu ok C T pt fd
    have hG := cr_g C
    have I := cr_i C
    obtain ⟨w, hw, W, hwf, P, CN⟩ := cr_w C
    have z0 : zwt z u 0 = z 0 := zwt_ne (by omega) (by omega)
    have z11 : zwt z u 11 = z 11 := zwt_ne (by omega) (by omega)
    have hPz := I.2.2.1
    rw [z0] at hPz
    have bL0 : 0 ≤ u.1 := ok.1.1
    refine s_iload_n dX8_write_15 rfl ?_
    refine s_aload_n dX8_write_16 rfl ?_
    refine s_getr dX8_write_17 fl_X8_25 kl_6 (by decide) rfl io_0 (z := 3) rfl (by first | exact hw | (simp (disch := omega) only [hs_same, hs_ne, fl_in, fl_ne, cp_inn, cp_nee]; exact hw)) (W).1 ?_
    refine s_getr dX8_write_20 fl_X8_105 kl_5 (by decide) rfl W (z := 3) rfl (rf_5_3 hG.1 W) (rk_5_3 W).1 ?_
    refine s_getr dX8_write_23 fl_X8_363 kl_2 (by decide) rfl (rk_5_3 W) (z := 0) rfl (rf_2_0 hG.1 (rk_5_3 W)) (rk_2_0 (rk_5_3 W)).1 ?_
    refine s_iload_n dX8_write_26 rfl ?_
    refine s_iaload dX8_write_27 (rk_2_0 (rk_5_3 W)) (by omega) (by rw [(nl_w W).2]; omega) ?_
    rw [show w + 14 + 1 = w + 15 by omega, (CN.2 p p0 (by rw [z0]; exact p1)).1, z11]
    refine s_icmp_ge (tgt := 58) dX8_write_28 (by decide) (by first | exact hG.2 _ _ | exact b01_in _ | assumption | exact ⟨by omega, by omega⟩) (by first | exact hG.2 _ _ | exact b01_in _ | assumption | exact ⟨by omega, by omega⟩) (fun c1 => ?_) (fun c1 => ?_)
    · exact absurd c1 (by omega)
    · refine s_aload_n dX8_write_31 rfl ?_
      refine s_getr dX8_write_32 fl_X8_65 kl_6 (by decide) rfl io_0 (z := 10) rfl (b := 195) (rf_6_10 hG.1 io_0) (by decide) ?_
      refine s_aload_n dX8_write_35 rfl ?_
      refine s_getr dX8_write_36 fl_X8_25 kl_6 (by decide) rfl io_0 (z := 3) rfl (by first | exact hw | (simp (disch := omega) only [hs_same, hs_ne, fl_in, fl_ne, cp_inn, cp_nee]; exact hw)) (W).1 ?_
      refine s_getr dX8_write_39 fl_X8_105 kl_5 (by decide) rfl W (z := 3) rfl (rf_5_3 hG.1 W) (rk_5_3 W).1 ?_
      refine s_iload_n dX8_write_42 rfl ?_
      refine s_iload_n dX8_write_43 rfl ?_
      refine s_callV (d' := d - 1) (bc' := 0) (bs' := 0) (as := [_, _]) dX8_write_44 vf_X8_109 (dd_ (by omega) (by decide)) ⟨Nat.zero_le _, Nat.zero_le _⟩ rfl rfl (Nat.le_of_ble_eq_true rfl) kl_2 rfl (rk_5_3 W) ?_
      have e1 : h (w + 14 + 1) p = z 11 p := by rw [show w + 14 + 1 = w + 15 by omega, (CN.2 p p0 (by rw [z0]; exact p1)).1, z11]
      refine c_X3_letter (rk_5_3 W) hG p0 (by rw [(nl_w W).2]; omega) ⟨by omega, by omega⟩ (by rw [e1]; omega) ?_
      have nl := (CN.2 p p0 (by rw [z0]; exact p1)).2 i i0 (by rw [z11]; omega)
      rw [e1, if_pos (by omega), show w + 14 + 2 + 1 + p = w + 17 + p by omega, nl, zwt_ne (x := 30 + p) (by omega) (by omega)]
      have bl := bL i i0 (by omega)
      refine s_i2c dX8_write_47 ?_
      rw [Int.emod_eq_of_lt (by omega) (by omega)]
      refine s_apc dX8_write_48 vf_X8_366 (by omega) pt T (by omega) (by omega) (by have := ok.1.2; omega) (Nat.le_of_ble_eq_true rfl) (fun bc bs hh pt T f9 => ?_)
      have hG1 := T.1
      have ok := okt_c ok (by omega : 0 ≤ z (30 + p) i) (by omega)
      have C := cr_tx C T ok (by omega) f9
      rw [zwt_zwt] at C
      have fd := fd.b f9
      obtain ⟨w, hw, W, hwf, P, CN⟩ := cr_w C
      refine s_pop dX8_write_51 rfl ?_
      refine s_iinc dX8_write_52 rfl (by decide) rfl (L' := [_, _, _, _]) rfl ?_
      refine s_goto (tgt := 15) dX8_write_55 (by decide) ?_
      refine ih (i + 1) (tc_ u (z (30 + p) i)) _ _ _ (by omega) (by omega) ?_ ok C T pt fd
      rw [hu, show (i + 1).toNat = i.toNat + 1 by omega]
      show tc_ _ _ = tc_ _ (z (30 + p) ((i.toNat : Nat) : Int))
      rw [toN_ i0]
set_option maxRecDepth 100000 in
set_option maxHeartbeats 4000000 in
theorem lp_X8_wrG  {z h0 : PH} (hd : 10 ≤ d) {p : Int} (p0 : 0 ≤ p) (p1 : p < z 0 1) {U : UT} (K : ∀ (i a : Int) (bc bs : Nat) (h : PH), OKT U 286 → CR_ h (zwt z U) → TW_ h U → PT_ bc bs h → FD h0 h → S_ MX8_write d bc bs Q 159 [(2, 0), (0, p), (0, i), (9, 0)] [] nN h) : ∀ (m : Nat) (i : Int) (u : UT) (bc bs : Nat) (h : PH), (0 ≤ i) → (i + m = z 0 2) → (rgf z p m i u = U) → (OKT u (22 + 22 * i)) → (CR_ h (zwt z u)) → (TW_ h u) → (PT_ bc bs h) → (FD h0 h) → S_ MX8_write d bc bs Q 103 [(2, 0), (0, p), (0, i), (9, 0)] [] nN h := by
  intro m
  induction m with
  | zero =>
    intro i u bc bs h i0 im hu ok C T pt fd
    have hG := cr_g C
    have I := cr_i C
    obtain ⟨w, hw, W, hwf, P, CN⟩ := cr_w C
    have z0 : zwt z u 0 = z 0 := zwt_ne (by omega) (by omega)
    have z11 : zwt z u 11 = z 11 := zwt_ne (by omega) (by omega)
    have hPz := I.2.2.1
    have hNz := I.2.2.2.1
    have eN := P.1.2.2
    rw [z0] at hPz hNz eN
    have bL0 : 0 ≤ u.1 := ok.1.1
    refine s_iload_n dX8_write_103 rfl ?_
    refine s_aload_n dX8_write_104 rfl ?_
    refine s_getr dX8_write_105 fl_X8_25 kl_6 (by decide) rfl io_0 (z := 3) rfl (by first | exact hw | (simp (disch := omega) only [hs_same, hs_ne, fl_in, fl_ne, cp_inn, cp_nee]; exact hw)) (W).1 ?_
    refine s_geti dX8_write_108 fl_X8_96 kl_5 (by decide) rfl W (z := 7) rfl ?_
    refine s_icmp_ge (tgt := 159) dX8_write_111 (by decide) (by first | exact hG.2 _ _ | exact b01_in _ | assumption | exact ⟨by omega, by omega⟩) (by first | exact hG.2 _ _ | exact b01_in _ | assumption | exact ⟨by omega, by omega⟩) (fun c1 => ?_) (fun c1 => ?_)
    · have hu : u = U := hu
      rw [hu] at ok C T
      exact K i 0 bc bs h (okt_le ok (by omega)) C T pt fd
    · exact absurd c1 (by omega)
  | succ m ih =>
    intro i u bc bs h i0 im hu ok C T pt fd
    have hG := cr_g C
    have I := cr_i C
    obtain ⟨w, hw, W, hwf, P, CN⟩ := cr_w C
    have z0 : zwt z u 0 = z 0 := zwt_ne (by omega) (by omega)
    have z11 : zwt z u 11 = z 11 := zwt_ne (by omega) (by omega)
    have hPz := I.2.2.1
    have hNz := I.2.2.2.1
    have eN := P.1.2.2
    rw [z0] at hPz hNz eN
    have bL0 : 0 ≤ u.1 := ok.1.1
    refine s_iload_n dX8_write_103 rfl ?_
    refine s_aload_n dX8_write_104 rfl ?_
    refine s_getr dX8_write_105 fl_X8_25 kl_6 (by decide) rfl io_0 (z := 3) rfl (by first | exact hw | (simp (disch := omega) only [hs_same, hs_ne, fl_in, fl_ne, cp_inn, cp_nee]; exact hw)) (W).1 ?_
    refine s_geti dX8_write_108 fl_X8_96 kl_5 (by decide) rfl W (z := 7) rfl ?_
    refine s_icmp_ge (tgt := 159) dX8_write_111 (by decide) (by first | exact hG.2 _ _ | exact b01_in _ | assumption | exact ⟨by omega, by omega⟩) (by first | exact hG.2 _ _ | exact b01_in _ | assumption | exact ⟨by omega, by omega⟩) (fun c1 => ?_) (fun c1 => ?_)
    · exact absurd c1 (by omega)
    · refine s_aload_n dX8_write_114 rfl ?_
      refine s_callV (d' := d - 1) (bc' := 0) (bs' := 0) (as := []) dX8_write_115 vf_X8_159 (dd_ (by omega) (by decide)) ⟨Nat.zero_le _, Nat.zero_le _⟩ rfl rfl (Nat.le_of_ble_eq_true rfl) kl_6 rfl io_0 ?_
      refine c_X8_reckoning (by omega) C (fun hh hG1 C st f9 => ?_)
      have T := tw_fc T hG1 f9
      have pt := pt_fc pt f9
      have fd := fd.c f9
      obtain ⟨w, hw, W, hwf, P, CN⟩ := cr_w C
      have RD := cr_rd C st
      have hr := cr_rw C st hw
      have eN := P.1.2.2
      refine s_getr dX8_write_118 fl_X8_322 kl_4 (by decide) rfl (rk_6_6 io_0) (z := 5) rfl (rf_4_5 hG1.1 (rk_6_6 io_0)) (rk_4_5 (rk_6_6 io_0)).1 ?_
      refine s_iload_n dX8_write_121 rfl ?_
      refine s_aaload4 dX8_write_122 (rk_4_5 (rk_6_6 io_0)) (by omega) (by omega) (rw_4_5 hG1.1 (rk_6_6 io_0) (by omega) (by omega)) (rx_4_5 (rk_6_6 io_0) (by omega) (by omega)).1 ?_
      refine s_iload_n dX8_write_123 rfl ?_
      refine s_iaload dX8_write_124 (rx_4_5 (rk_6_6 io_0) (by omega) (by omega)) (by omega) (by omega) ?_
      have tk := RD.2.2.2.2.1 i p i0 (by rw [z0]; omega) p0 (by rw [z0]; exact p1)
      rw [tk.1]
      rw [ztk_e (zwt_E z u)] at tk ⊢
      refine s_istore_n dX8_write_125 (by decide) rfl (L' := [_, _, _, _]) rfl ?_
      refine s_iload_n dX8_write_126 rfl ?_
      refine s_if_le (tgt := 153) dX8_write_127 (by decide) (by first | exact hG1.2 _ _ | exact hG.2 _ _ | exact b01_in _ | assumption | exact ⟨by omega, by omega⟩) (fun c2 => ?_) (fun c2 => ?_)
      · refine s_iinc dX8_write_153 rfl (by decide) rfl (L' := [_, _, _, _]) rfl ?_
        refine s_goto (tgt := 103) dX8_write_156 (by decide) ?_
        have e1 : rg1 z p i u = u := if_neg (by omega)
        refine s_fg (L' := [(2, 0), (0, p), (0, i + 1), (9, 0)]) ⟨Or.inr rfl, Or.inr rfl, Or.inr rfl, Or.inl rfl, trivial⟩ ?_
        exact ih (i + 1) u _ _ _ (by omega) (by omega) (by rw [← hu]; show _ = rgf z p m (i + 1) (rg1 z p i u); rw [e1]) (okt_le ok (by omega)) C T pt fd
      · refine s_aload_n dX8_write_130 rfl ?_
        refine s_getr dX8_write_131 fl_X8_65 kl_6 (by decide) rfl io_0 (z := 10) rfl (b := 195) (rf_6_10 hG1.1 io_0) (by decide) ?_
        refine s_bipush dX8_write_134 (by decide) ?_
        refine s_apc dX8_write_136 vf_X8_366 (by omega) pt T (by decide) (by decide) (by have := ok.1.2; omega) (Nat.le_of_ble_eq_true rfl) (fun bc bs hh pt T f9 => ?_)
        have hG2 := T.1
        have ok := okt_c (c := 32) ok (by decide) (by decide)
        have C := cr_tx C T ok (by omega) f9
        rw [zwt_zwt] at C
        have fd := fd.b f9
        obtain ⟨w, hw, W, hwf, P, CN⟩ := cr_w C
        refine s_iload_n dX8_write_139 rfl ?_
        refine s_apn dX8_write_140 vf_X8_370 (by omega) pt T i0 (by omega) (by have := ok.1.2; omega) (Nat.le_of_ble_eq_true rfl) (fun bc bs hh pt T f9 => ?_)
        have hG3 := T.1
        have ok := okt_n (v := i) ok
        have C := cr_tx C T ok (by omega) f9
        rw [zwt_zwt] at C
        have fd := fd.b f9
        obtain ⟨w, hw, W, hwf, P, CN⟩ := cr_w C
        refine s_bipush dX8_write_143 (by decide) ?_
        refine s_apc dX8_write_145 vf_X8_366 (by omega) pt T (by decide) (by decide) (by have := ok.1.2; omega) (Nat.le_of_ble_eq_true rfl) (fun bc bs hh pt T f9 => ?_)
        have hG4 := T.1
        have ok := okt_c (c := 58) ok (by decide) (by decide)
        have C := cr_tx C T ok (by omega) f9
        rw [zwt_zwt] at C
        have fd := fd.b f9
        obtain ⟨w, hw, W, hwf, P, CN⟩ := cr_w C
        refine s_iload_n dX8_write_148 rfl ?_
        refine s_apn dX8_write_149 vf_X8_370 (by omega) pt T tk.2.1 (by omega) (by have := ok.1.2; omega) (Nat.le_of_ble_eq_true rfl) (fun bc bs hh pt T f9 => ?_)
        have hG5 := T.1
        have ok := okt_n (v := ztk z i p) ok
        have C := cr_tx C T ok (by omega) f9
        rw [zwt_zwt] at C
        have fd := fd.b f9
        obtain ⟨w, hw, W, hwf, P, CN⟩ := cr_w C
        refine s_pop dX8_write_152 rfl ?_
        refine s_iinc dX8_write_153 rfl (by decide) rfl (L' := [_, _, _, _]) rfl ?_
        refine s_goto (tgt := 103) dX8_write_156 (by decide) ?_
        have e1 : rg1 z p i u = tn_ (tc_ (tn_ (tc_ u 32) i) 58) (ztk z i p) := if_pos (by omega)
        refine s_fg (L' := [(2, 0), (0, p), (0, i + 1), (9, 0)]) ⟨Or.inr rfl, Or.inr rfl, Or.inr rfl, Or.inl rfl, trivial⟩ ?_
        exact ih (i + 1) _ _ _ _ (by omega) (by omega) (by rw [← hu]; show _ = rgf z p m (i + 1) (rg1 z p i u); rw [e1]) (okt_le ok (by omega)) C T pt fd
theorem rdd_0 {z : PH} {p : Int} {u : UT} (e : zdd z p = 0) : rdd z p u = u := if_pos e
theorem rdd_1 {z : PH} {p : Int} {u : UT} (e : ¬ zdd z p = 0) : rdd z p u = td_ u := if_neg e
set_option maxRecDepth 100000 in
set_option maxHeartbeats 4000000 in
theorem rp_X8_wrE {z h0 : PH} (hd : 10 ≤ d) {p i : Int} (p0 : 0 ≤ p) (p1 : p < z 0 1) {U : UT} (ok : OKT U 286) (C : CR_ h (zwt z U)) (T : TW_ h U) (pt : PT_ bc bs h) (fd : FD h0 h) (k : ∀ h1 : PH, CR_ h1 (zwt z (rih z p U)) → B5_ h1 → FD h0 h1 → Q.1 (some (0, (rih z p U).1)) nN h1) : S_ MX8_write d bc bs Q 159 [(2, 0), (0, p), (0, i), (9, 0)] [] nN h := by
  have hG := cr_g C
  have I := cr_i C
  have hPz := I.2.2.1
  rw [zwt_ne (x := 0) (by omega) (by omega)] at hPz
  refine s_aload_n dX8_write_159 rfl ?_
  refine s_callV (d' := d - 1) (bc' := 0) (bs' := 0) (as := []) dX8_write_160 vf_X8_159 (dd_ (by omega) (by decide)) ⟨Nat.zero_le _, Nat.zero_le _⟩ rfl rfl (Nat.le_of_ble_eq_true rfl) kl_6 rfl io_0 ?_
  refine c_X8_reckoning (by omega) C (fun hh hG1 C st f9 => ?_)
  have T := tw_fc T hG1 f9
  have pt := pt_fc pt f9
  have fd := fd.c f9
  obtain ⟨w, hw, W, hwf, P, CN⟩ := cr_w C
  have RD := cr_rd C st
  have hr := cr_rw C st hw
  have eN := P.1.2.2
  refine s_getr dX8_write_163 fl_X8_328 kl_4 (by decide) rfl (rk_6_6 io_0) (z := 6) rfl (rf_4_6 hG1.1 (rk_6_6 io_0)) (rk_4_6 (rk_6_6 io_0)).1 ?_
  refine s_iload_n dX8_write_166 rfl ?_
  refine s_iaload dX8_write_167 (rk_4_6 (rk_6_6 io_0)) (by omega) (by omega) ?_
  have ti := RD.2.2.2.2.2.1 p p0 (by rw [zwt_ne (x := 0) (by omega) (by omega)]; exact p1)
  rw [ti.1]
  rw [zih_e (zwt_E z _)] at ti ⊢
  refine s_if_le (tgt := 194) dX8_write_168 (by decide) (by first | exact hG1.2 _ _ | exact hG.2 _ _ | exact b01_in _ | assumption | exact ⟨by omega, by omega⟩) (fun c1 => ?_) (fun c1 => ?_)
  · refine s_aload_n dX8_write_194 rfl ?_
    refine s_getr dX8_write_195 fl_X8_65 kl_6 (by decide) rfl io_0 (z := 10) rfl (b := 195) (rf_6_10 hG1.1 io_0) (by decide) ?_
    refine e_callB (d' := d - 1) (bc' := 0) (bs' := 0) (as := []) nh_0 dX8_write_198 (bf_v vf_X8_380 rfl) (dd_ (by omega) (by decide)) ⟨Nat.zero_le _, Nat.zero_le _⟩ rfl rfl (Nat.le_of_ble_eq_true rfl) ?_
    refine c_J4_length_8abf5 (by omega) ?_
    rw [T.2.2.2.1]
    have e1 : rih z p U = U := if_neg (by omega)
    rw [e1] at k
    exact s_ireturn dX8_write_201 rfl (k _ C T.2.1 fd)
  · refine s_aload_n dX8_write_171 rfl ?_
    refine s_getr dX8_write_172 fl_X8_65 kl_6 (by decide) rfl io_0 (z := 10) rfl (b := 195) (rf_6_10 hG1.1 io_0) (by decide) ?_
    refine s_ldcSW (j := 24) (z := 1000 + ((48 : Nat) : Int)) dX8_write_175 (by decide) rfl rfl (by decide) ?_
    refine s_aps (j := 48) (by decide) dX8_write_178 vf_X8_375 (by omega) pt T (by have := ok.1.2; omega) (Nat.le_of_ble_eq_true rfl) (fun bc bs hh pt T f9 => ?_)
    rw [ti_eq] at T
    have hG2 := T.1
    have ok := okt_i ok
    have C := cr_tx C T ok (by omega) f9
    rw [zwt_zwt] at C
    have fd := fd.b f9
    obtain ⟨w, hw, W, hwf, P, CN⟩ := cr_w C
    refine s_aload_n dX8_write_181 rfl ?_
    refine s_callV (d' := d - 1) (bc' := 0) (bs' := 0) (as := []) dX8_write_182 vf_X8_159 (dd_ (by omega) (by decide)) ⟨Nat.zero_le _, Nat.zero_le _⟩ rfl rfl (Nat.le_of_ble_eq_true rfl) kl_6 rfl io_0 ?_
    refine c_X8_reckoning (by omega) C (fun hh hG3 C st f9 => ?_)
    have T := tw_fc T hG3 f9
    have pt := pt_fc pt f9
    have fd := fd.c f9
    obtain ⟨w, hw, W, hwf, P, CN⟩ := cr_w C
    have RD := cr_rd C st
    have hr := cr_rw C st hw
    have eN := P.1.2.2
    refine s_getr dX8_write_185 fl_X8_328 kl_4 (by decide) rfl (rk_6_6 io_0) (z := 6) rfl (rf_4_6 hG3.1 (rk_6_6 io_0)) (rk_4_6 (rk_6_6 io_0)).1 ?_
    refine s_iload_n dX8_write_188 rfl ?_
    refine s_iaload dX8_write_189 (rk_4_6 (rk_6_6 io_0)) (by omega) (by omega) ?_
    have ti := RD.2.2.2.2.2.1 p p0 (by rw [zwt_ne (x := 0) (by omega) (by omega)]; exact p1)
    rw [ti.1]
    rw [zih_e (zwt_E z _)] at ti ⊢
    refine s_apn dX8_write_190 vf_X8_370 (by omega) pt T ti.2.1 (by omega) (by have := ok.1.2; omega) (Nat.le_of_ble_eq_true rfl) (fun bc bs hh pt T f9 => ?_)
    have hG4 := T.1
    have ok := okt_n (v := zih z p) ok
    have C := cr_tx C T ok (by omega) f9
    rw [zwt_zwt] at C
    have fd := fd.b f9
    obtain ⟨w, hw, W, hwf, P, CN⟩ := cr_w C
    refine s_pop dX8_write_193 rfl ?_
    refine s_aload_n dX8_write_194 rfl ?_
    refine s_getr dX8_write_195 fl_X8_65 kl_6 (by decide) rfl io_0 (z := 10) rfl (b := 195) (rf_6_10 hG4.1 io_0) (by decide) ?_
    refine e_callB (d' := d - 1) (bc' := 0) (bs' := 0) (as := []) nh_0 dX8_write_198 (bf_v vf_X8_380 rfl) (dd_ (by omega) (by decide)) ⟨Nat.zero_le _, Nat.zero_le _⟩ rfl rfl (Nat.le_of_ble_eq_true rfl) ?_
    refine c_J4_length_8abf5 (by omega) ?_
    rw [T.2.2.2.1]
    have e1 : rih z p U = tn_ (ti_ U) (zih z p) := if_pos (by omega)
    rw [e1] at k
    exact s_ireturn dX8_write_201 rfl (k _ C T.2.1 fd)
set_option maxRecDepth 100000 in
set_option maxHeartbeats 4000000 in
theorem rp_X8_wrB {z h0 : PH} (hd : 10 ≤ d) {p i : Int} (p0 : 0 ≤ p) (p1 : p < z 0 1) (ok : OKT (rnm z p (z 11 p).toNat) 6) (C : CR_ h (zwt z (rnm z p (z 11 p).toNat))) (T : TW_ h (rnm z p (z 11 p).toNat)) (pt : PT_ bc bs h) (fd : FD h0 h) (k : ∀ h1 : PH, CR_ h1 (zwt z (rep z p)) → B5_ h1 → FD h0 h1 → Q.1 (some (0, (rep z p).1)) nN h1) : S_ MX8_write d bc bs Q 58 [(2, 0), (0, p), (0, i), (9, 0)] [] nN h := by
  have hG := cr_g C
  have I := cr_i C
  have hPz := I.2.2.1
  have hNz := I.2.2.2.1
  have tb := zta_bd I p0 (by rw [zwt_ne (x := 0) (by omega) (by omega)]; exact p1)
  rw [zta_e (zwt_E z _)] at tb
  rw [zwt_ne (x := 0) (by omega) (by omega)] at hPz hNz
  refine s_aload_n dX8_write_58 rfl ?_
  refine s_getr dX8_write_59 fl_X8_65 kl_6 (by decide) rfl io_0 (z := 10) rfl (b := 195) (rf_6_10 hG.1 io_0) (by decide) ?_
  refine s_bipush dX8_write_62 (by decide) ?_
  refine s_apc dX8_write_64 vf_X8_366 (by omega) pt T (by decide) (by decide) (by have := ok.1.2; omega) (Nat.le_of_ble_eq_true rfl) (fun bc bs hh pt T f9 => ?_)
  have hG1 := T.1
  have ok := okt_c (c := 32) ok (by decide) (by decide)
  have C := cr_tx C T ok (by omega) f9
  rw [zwt_zwt] at C
  have fd := fd.b f9
  obtain ⟨w, hw, W, hwf, P, CN⟩ := cr_w C
  refine s_aload_n dX8_write_67 rfl ?_
  refine s_callV (d' := d - 1) (bc' := 0) (bs' := 0) (as := []) dX8_write_68 vf_X8_159 (dd_ (by omega) (by decide)) ⟨Nat.zero_le _, Nat.zero_le _⟩ rfl rfl (Nat.le_of_ble_eq_true rfl) kl_6 rfl io_0 ?_
  refine c_X8_reckoning (by omega) C (fun hh hG2 C st f9 => ?_)
  have T := tw_fc T hG2 f9
  have pt := pt_fc pt f9
  have fd := fd.c f9
  obtain ⟨w, hw, W, hwf, P, CN⟩ := cr_w C
  have RD := cr_rd C st
  have hr := cr_rw C st hw
  have eN := P.1.2.2
  refine s_iload_n dX8_write_71 rfl ?_
  refine s_callV (d' := d - 1) (bc' := 0) (bs' := 0) (as := [_]) dX8_write_72 vf_X8_325 (dd_ (by omega) (by decide)) ⟨Nat.zero_le _, Nat.zero_le _⟩ rfl rfl (Nat.le_of_ble_eq_true rfl) kl_4 rfl (rk_6_6 io_0) ?_
  refine c_X5_takenInAll (rk_6_6 io_0) hG2 hr W (by rw [eN]; exact (cr_i C).2.2.2.1.1) (by rw [eN]; exact (cr_i C).2.2.2.1.2) p0 (by omega) ?_
  rw [tk_of RD eN p0 (by rw [zwt_ne (x := 0) (by omega) (by omega)]; exact p1), zta_e (zwt_E z _)]
  refine s_apn dX8_write_75 vf_X8_370 (by omega) pt T tb.1 (by omega) (by have := ok.1.2; omega) (Nat.le_of_ble_eq_true rfl) (fun bc bs hh pt T f9 => ?_)
  have hG3 := T.1
  have ok := okt_n (v := zta z p) ok
  have C := cr_tx C T ok (by omega) f9
  rw [zwt_zwt] at C
  have fd := fd.b f9
  obtain ⟨w, hw, W, hwf, P, CN⟩ := cr_w C
  refine s_pop dX8_write_78 rfl ?_
  refine s_aload_n dX8_write_79 rfl ?_
  refine s_getr dX8_write_80 fl_X8_32 kl_6 (by decide) rfl io_0 (z := 4) rfl (rf_6_4 hG3.1 io_0) (rk_6_4 io_0).1 ?_
  refine s_iload_n dX8_write_83 rfl ?_
  refine s_callV (d' := d - 1) (bc' := 0) (bs' := 0) (as := [_]) dX8_write_84 vf_X8_156 (dd_ (by omega) (by decide)) ⟨Nat.zero_le _, Nat.zero_le _⟩ rfl rfl (Nat.le_of_ble_eq_true rfl) kl_1 rfl (rk_6_4 io_0) ?_
  refine c_X2_isDead (rk_6_4 io_0) hG3 p0 (by omega) ?_
  rw [P.2.1 _ (by omega) (by omega), zwt_ne (x := 1) (by omega) (by omega)]
  refine s_if_eq (tgt := 101) dX8_write_87 (by decide) (by first | exact hG3.2 _ _ | exact hG.2 _ _ | exact b01_in _ | assumption | exact ⟨by omega, by omega⟩) (fun c1 => ?_) (fun c1 => ?_)
  · have c1 := b01_0.mp c1
    refine s_iconst dX8_write_101 ?_
    refine s_istore_n dX8_write_102 (by decide) rfl (L' := [_, _, _, _]) rfl ?_
    have er : rhd z p = _ := rdd_0 (by unfold zdd; omega)
    rw [← er] at ok C T
    exact lp_X8_wrG hd p0 p1 (U := rgf z p (z 0 2).toNat 0 (rhd z p)) (fun i a bc bs h ok C T pt fd => rp_X8_wrE hd p0 p1 ok C T pt fd k) (z 0 2).toNat 0 (rhd z p) _ _ _ (by omega) (by omega) rfl (okt_le ok (by omega)) C T pt fd
  · have c1 := b01_n.mp c1
    refine s_aload_n dX8_write_90 rfl ?_
    refine s_getr dX8_write_91 fl_X8_65 kl_6 (by decide) rfl io_0 (z := 10) rfl (b := 195) (rf_6_10 hG3.1 io_0) (by decide) ?_
    refine s_ldcSW (j := 23) (z := 1000 + ((47 : Nat) : Int)) dX8_write_94 (by decide) rfl rfl (by decide) ?_
    refine s_aps (j := 47) (by decide) dX8_write_97 vf_X8_375 (by omega) pt T (by have := ok.1.2; omega) (Nat.le_of_ble_eq_true rfl) (fun bc bs hh pt T f9 => ?_)
    rw [td_eq] at T
    have hG4 := T.1
    have ok := okt_d ok
    have C := cr_tx C T ok (by omega) f9
    rw [zwt_zwt] at C
    have fd := fd.b f9
    obtain ⟨w, hw, W, hwf, P, CN⟩ := cr_w C
    refine s_pop dX8_write_100 rfl ?_
    refine s_iconst dX8_write_101 ?_
    refine s_istore_n dX8_write_102 (by decide) rfl (L' := [_, _, _, _]) rfl ?_
    have er : rhd z p = _ := rdd_1 (by unfold zdd; omega)
    rw [← er] at ok C T
    exact lp_X8_wrG hd p0 p1 (U := rgf z p (z 0 2).toNat 0 (rhd z p)) (fun i a bc bs h ok C T pt fd => rp_X8_wrE hd p0 p1 ok C T pt fd k) (z 0 2).toNat 0 (rhd z p) _ _ _ (by omega) (by omega) rfl (okt_le ok (by omega)) C T pt fd
set_option maxRecDepth 100000 in
set_option maxHeartbeats 4000000 in
theorem c_X8_write {p : Int} (hd : 10 ≤ d) (hbc : 1 ≤ bc) (hbs : 6 ≤ bs) (C : CR_ h z) (B : B5_ h) (pt : PT_ (bc - 1) (bs - 6) h) (hp : inI p) (k : 0 ≤ p → p < z 0 1 → ∀ h1 : PH, CR_ h1 (zwt z (rep z p)) → B5_ h1 → FD h h1 → Q.1 (some (0, (rep z p).1)) nN h1) (k1 : ¬ (0 ≤ p ∧ p < z 0 1) → TH_ Q h z IOB) : Cl_ yX8_write MX8_write d bc bs [(2, 0), (0, p)] nN h Q := by
  refine s_enter pn_X8 rfl (Nat.le_of_ble_eq_true rfl) (L := [(2, _), (0, _), (9, 0), (9, 0)]) rfl ?_
  have hG := cr_g C
  have I := cr_i C
  obtain ⟨w, hw, W, hwf, P, CN⟩ := cr_w C
  refine s_aload_n dX8_write_0 rfl ?_
  refine s_iload_n dX8_write_1 rfl ?_
  refine s_callV (d' := d - 1) (bc' := 1) (bs' := 6) (as := [_]) dX8_write_2 vf_X8_102 (dd_ (by omega) (by decide)) ⟨by omega, by omega⟩ rfl rfl (Nat.le_of_ble_eq_true rfl) kl_6 rfl io_0 ?_
  refine c_X8_checkPerson (by omega) (by omega) (by omega) C (by assumption) (fun p0 p1 => ?_) (fun e => k1 (by omega) h C (FC.rf h))
  refine s_aload_n dX8_write_5 rfl ?_
  refine s_getr dX8_write_6 fl_X8_65 kl_6 (by decide) rfl io_0 (z := 10) rfl (b := 195) (rf_6_10 hG.1 io_0) (by decide) ?_
  refine s_iconst dX8_write_9 ?_
  refine s_apz dX8_write_10 vf_X8_360 (by omega) B hG C.2.2.2.2.2.2.2.2.2.1.2.2.2.2.2 (Nat.le_of_ble_eq_true rfl) (fun h1 T f9 e9 => ?_)
  have hG1 := T.1
  have C1 := cr_tx C T okt_0 (by omega) f9
  have pt1 : PT_ (bc - 1) (bs - 6) h1 := by unfold PT_; rw [e9]; exact pt
  have bz := (cr_b C).2.2.2.2.1 p p0 p1
  refine s_iconst dX8_write_13 ?_
  refine s_istore_n dX8_write_14 (by decide) rfl (L' := [_, _, _, _]) rfl ?_
  exact lp_X8_wrA (h0 := h) hd p0 p1 bz.1 bz.2 (fun i bc bs h2 ok C2 T2 pt2 fd2 => rp_X8_wrB hd p0 p1 ok C2 T2 pt2 fd2 (k p0 p1)) (z 11 p).toNat 0 (0, fun _ => 0) _ _ h1 (by omega) (by omega) rfl okt_0 C1 T pt1 ((FD.rf h).b f9)
set_option maxRecDepth 100000 in
set_option maxHeartbeats 4000000 in
theorem c_X8_octet {v : Int} (hd : 10 ≤ d) (C : CR_ h z) (B : B5_ h) (hv : inI v) (k : OK_ Q h z (zoct z v)) : Cl_ yX8_octet MX8_octet d bc bs [(2, 0), (0, v)] nN h Q := by
  refine s_enter pn_X8 rfl (Nat.le_of_ble_eq_true rfl) (L := [(2, _), (0, _)]) rfl ?_
  have hG := cr_g C
  have I := cr_i C
  obtain ⟨w, hw, W, hwf, P, CN⟩ := cr_w C
  obtain ⟨a1, a2, a3, a4, a5, a6⟩ := C.2.2.2.2.2.2.2.2.2.1
  have zl := (cr_b C).2.2.2.2.2.2.2.2
  have zl4 := (cr_b C).2.2.2.2.2.2.2.1
  have k9 := k h C (FC.rf h)
  unfold zoct at k9
  refine s_iload_n dX8_octet_0 rfl ?_
  refine s_if_lt (tgt := 15) dX8_octet_1 (by decide) (by first | exact hG.2 _ _ | exact b01_in _ | assumption | exact ⟨by omega, by omega⟩) (fun c1 => ?_) (fun c1 => ?_)
  · refine s_iconst dX8_octet_15 ?_
    refine s_goto (tgt := 27) dX8_octet_16 (by decide) ?_
    first | exact s_ireturn dX8_octet_27 rfl k9 | (rw [if_neg (by omega)] at k9; exact s_ireturn dX8_octet_27 rfl k9)
  · refine s_iload_n dX8_octet_4 rfl ?_
    refine s_aload_n dX8_octet_5 rfl ?_
    refine s_getr dX8_octet_6 fl_X8_65 kl_6 (by decide) rfl io_0 (z := 10) rfl (b := 195) (rf_6_10 hG.1 io_0) (by decide) ?_
    refine e_callB (d' := d - 1) (bc' := 0) (bs' := 0) (as := []) nh_0 dX8_octet_9 (bf_v vf_X8_380 rfl) (dd_ (by omega) (by decide)) ⟨Nat.zero_le _, Nat.zero_le _⟩ rfl rfl (Nat.le_of_ble_eq_true rfl) ?_
    refine c_J4_length_8abf5 (by omega) ?_
    rw [a1]
    refine s_icmp_lt (tgt := 19) dX8_octet_12 (by decide) (by first | exact hG.2 _ _ | exact b01_in _ | assumption | exact ⟨by omega, by omega⟩) (by first | exact hG.2 _ _ | exact b01_in _ | assumption | exact ⟨by omega, by omega⟩) (fun c2 => ?_) (fun c2 => ?_)
    · refine s_aload_n dX8_octet_19 rfl ?_
      refine s_getr dX8_octet_20 fl_X8_65 kl_6 (by decide) rfl io_0 (z := 10) rfl (b := 195) (rf_6_10 hG.1 io_0) (by decide) ?_
      refine s_iload_n dX8_octet_23 rfl ?_
      have bb := zl v (by omega) (by omega)
      have e2 := a2 v (by omega) (by omega)
      rw [if_pos (by omega)] at k9
      refine e_callB (d' := d - 1) (bc' := 0) (bs' := 0) (as := [_]) nh_0 dX8_octet_24 (bf_v vf_X8_383 rfl) (dd_ (by omega) (by decide)) ⟨Nat.zero_le _, Nat.zero_le _⟩ rfl rfl (Nat.le_of_ble_eq_true rfl) ?_
      refine c_J4_charAt_5068e (by omega) B (by omega) (by omega) (by omega) (by omega) ?_
      rw [e2]
      first | exact s_ireturn dX8_octet_27 rfl k9 | (rw [if_neg (by omega)] at k9; exact s_ireturn dX8_octet_27 rfl k9)
    · refine s_iconst dX8_octet_15 ?_
      refine s_goto (tgt := 27) dX8_octet_16 (by decide) ?_
      first | exact s_ireturn dX8_octet_27 rfl k9 | (rw [if_neg (by omega)] at k9; exact s_ireturn dX8_octet_27 rfl k9)
set_option maxRecDepth 100000 in
set_option maxHeartbeats 4000000 in
theorem c_X8_count {v : Int} (hd : 10 ≤ d) (C : CR_ h z) (hv : inI v) (k : OK_ Q h z (zcount z v)) : Cl_ yX8_count MX8_count d bc bs [(2, 0), (0, v)] nN h Q := by
  refine s_enter pn_X8 rfl (Nat.le_of_ble_eq_true rfl) (L := [(2, _), (0, _)]) rfl ?_
  have hG := cr_g C
  have I := cr_i C
  obtain ⟨w, hw, W, hwf, P, CN⟩ := cr_w C
  have fc := FC.rf h
  have hT := I.2.1
  have hP := I.2.2.1
  have hN := I.2.2.2.1
  have a1 := C.2.2.2.2.2.2.2.2.2.1.1
  have ac := C.2.2.2.2.2.2.2.2.1.1
  refine s_iload_n dX8_count_0 rfl ?_
  rcases (by omega : v = 0 ∨ v = 1 ∨ v = 2 ∨ v = 3 ∨ v = 4 ∨ v = 5 ∨ v = 6 ∨ v = 7 ∨ v = 8 ∨ v = 9 ∨ v = 10 ∨ v = 11 ∨ v = 12 ∨ v = 13 ∨ v = 14 ∨ (v < 0 ∨ 14 < v)) with rfl | rfl | rfl | rfl | rfl | rfl | rfl | rfl | rfl | rfl | rfl | rfl | rfl | rfl | rfl | c1
  · refine s_tabIn (tgt := 76) dX8_count_1 (by first | exact hG.2 _ _ | exact b01_in _ | assumption | exact ⟨by omega, by omega⟩) (by decide) (by decide) rfl (by decide) ?_
    refine s_aload_n dX8_count_76 rfl ?_
    refine s_getr dX8_count_77 fl_X8_25 kl_6 (by decide) rfl io_0 (z := 3) rfl (by first | exact hw | (simp (disch := omega) only [hs_same, hs_ne, fl_in, fl_ne, cp_inn, cp_nee]; exact hw)) (W).1 ?_
    refine s_getr dX8_count_80 fl_X8_118 kl_5 (by decide) rfl W (z := 0) rfl (rf_5_0 hG.1 W) (rk_5_0 W).1 ?_
    refine s_geti dX8_count_83 fl_X8_339 kl_2 (by decide) rfl (rk_5_0 W) (z := 1) rfl ?_
    rw [P.1.1]
    have k9 := k _ C fc
    first
      | exact s_ireturn dX8_count_86 rfl k9
      | (unfold zcount at k9
         repeat rw [if_neg (by omega)] at k9
         first | exact s_ireturn dX8_count_86 rfl k9 | (rw [if_pos (by omega)] at k9; exact s_ireturn dX8_count_86 rfl k9))
  · refine s_tabIn (tgt := 87) dX8_count_1 (by first | exact hG.2 _ _ | exact b01_in _ | assumption | exact ⟨by omega, by omega⟩) (by decide) (by decide) rfl (by decide) ?_
    refine s_aload_n dX8_count_87 rfl ?_
    refine s_getr dX8_count_88 fl_X8_25 kl_6 (by decide) rfl io_0 (z := 3) rfl (by first | exact hw | (simp (disch := omega) only [hs_same, hs_ne, fl_in, fl_ne, cp_inn, cp_nee]; exact hw)) (W).1 ?_
    refine s_getr dX8_count_91 fl_X8_105 kl_5 (by decide) rfl W (z := 3) rfl (rf_5_3 hG.1 W) (rk_5_3 W).1 ?_
    refine s_geti dX8_count_94 fl_X8_339 kl_2 (by decide) rfl (rk_5_3 W) (z := 1) rfl ?_
    rw [P.1.2.1]
    have k9 := k _ C fc
    first
      | exact s_ireturn dX8_count_97 rfl k9
      | (unfold zcount at k9
         repeat rw [if_neg (by omega)] at k9
         first | exact s_ireturn dX8_count_97 rfl k9 | (rw [if_pos (by omega)] at k9; exact s_ireturn dX8_count_97 rfl k9))
  · refine s_tabIn (tgt := 98) dX8_count_1 (by first | exact hG.2 _ _ | exact b01_in _ | assumption | exact ⟨by omega, by omega⟩) (by decide) (by decide) rfl (by decide) ?_
    refine s_aload_n dX8_count_98 rfl ?_
    refine s_getr dX8_count_99 fl_X8_25 kl_6 (by decide) rfl io_0 (z := 3) rfl (by first | exact hw | (simp (disch := omega) only [hs_same, hs_ne, fl_in, fl_ne, cp_inn, cp_nee]; exact hw)) (W).1 ?_
    refine s_geti dX8_count_102 fl_X8_96 kl_5 (by decide) rfl W (z := 7) rfl ?_
    rw [P.1.2.2]
    have k9 := k _ C fc
    first
      | exact s_ireturn dX8_count_105 rfl k9
      | (unfold zcount at k9
         repeat rw [if_neg (by omega)] at k9
         first | exact s_ireturn dX8_count_105 rfl k9 | (rw [if_pos (by omega)] at k9; exact s_ireturn dX8_count_105 rfl k9))
  · refine s_tabIn (tgt := 106) dX8_count_1 (by first | exact hG.2 _ _ | exact b01_in _ | assumption | exact ⟨by omega, by omega⟩) (by decide) (by decide) rfl (by decide) ?_
    refine s_aload_n dX8_count_106 rfl ?_
    refine s_getr dX8_count_107 fl_X8_32 kl_6 (by decide) rfl io_0 (z := 4) rfl (rf_6_4 hG.1 io_0) (rk_6_4 io_0).1 ?_
    refine s_iconst dX8_count_110 ?_
    refine s_callV (d' := d - 1) (bc' := 0) (bs' := 0) (as := [_]) dX8_count_111 vf_X8_204 (dd_ (by omega) (by decide)) ⟨Nat.zero_le _, Nat.zero_le _⟩ rfl rfl (Nat.le_of_ble_eq_true rfl) kl_1 rfl (rk_6_4 io_0) ?_
    refine c_X2_told (rk_6_4 io_0) hG (by omega) (by omega) ?_
    rw [P.2.1 _ (by omega) (by omega)]
    have k9 := k _ C fc
    first
      | exact s_ireturn dX8_count_114 rfl k9
      | (unfold zcount at k9
         repeat rw [if_neg (by omega)] at k9
         first | exact s_ireturn dX8_count_114 rfl k9 | (rw [if_pos (by omega)] at k9; exact s_ireturn dX8_count_114 rfl k9))
  · refine s_tabIn (tgt := 115) dX8_count_1 (by first | exact hG.2 _ _ | exact b01_in _ | assumption | exact ⟨by omega, by omega⟩) (by decide) (by decide) rfl (by decide) ?_
    refine s_aload_n dX8_count_115 rfl ?_
    refine s_getr dX8_count_116 fl_X8_32 kl_6 (by decide) rfl io_0 (z := 4) rfl (rf_6_4 hG.1 io_0) (rk_6_4 io_0).1 ?_
    refine s_iconst dX8_count_119 ?_
    refine s_callV (d' := d - 1) (bc' := 0) (bs' := 0) (as := [_]) dX8_count_120 vf_X8_204 (dd_ (by omega) (by decide)) ⟨Nat.zero_le _, Nat.zero_le _⟩ rfl rfl (Nat.le_of_ble_eq_true rfl) kl_1 rfl (rk_6_4 io_0) ?_
    refine c_X2_told (rk_6_4 io_0) hG (by omega) (by omega) ?_
    rw [P.2.1 _ (by omega) (by omega)]
    have k9 := k _ C fc
    first
      | exact s_ireturn dX8_count_123 rfl k9
      | (unfold zcount at k9
         repeat rw [if_neg (by omega)] at k9
         first | exact s_ireturn dX8_count_123 rfl k9 | (rw [if_pos (by omega)] at k9; exact s_ireturn dX8_count_123 rfl k9))
  · refine s_tabIn (tgt := 124) dX8_count_1 (by first | exact hG.2 _ _ | exact b01_in _ | assumption | exact ⟨by omega, by omega⟩) (by decide) (by decide) rfl (by decide) ?_
    refine s_aload_n dX8_count_124 rfl ?_
    refine s_getr dX8_count_125 fl_X8_32 kl_6 (by decide) rfl io_0 (z := 4) rfl (rf_6_4 hG.1 io_0) (rk_6_4 io_0).1 ?_
    refine s_iconst dX8_count_128 ?_
    refine s_callV (d' := d - 1) (bc' := 0) (bs' := 0) (as := [_]) dX8_count_129 vf_X8_204 (dd_ (by omega) (by decide)) ⟨Nat.zero_le _, Nat.zero_le _⟩ rfl rfl (Nat.le_of_ble_eq_true rfl) kl_1 rfl (rk_6_4 io_0) ?_
    refine c_X2_told (rk_6_4 io_0) hG (by omega) (by omega) ?_
    rw [P.2.1 _ (by omega) (by omega)]
    have k9 := k _ C fc
    first
      | exact s_ireturn dX8_count_132 rfl k9
      | (unfold zcount at k9
         repeat rw [if_neg (by omega)] at k9
         first | exact s_ireturn dX8_count_132 rfl k9 | (rw [if_pos (by omega)] at k9; exact s_ireturn dX8_count_132 rfl k9))
  · refine s_tabIn (tgt := 133) dX8_count_1 (by first | exact hG.2 _ _ | exact b01_in _ | assumption | exact ⟨by omega, by omega⟩) (by decide) (by decide) rfl (by decide) ?_
    refine s_aload_n dX8_count_133 rfl ?_
    refine s_getr dX8_count_134 fl_X8_32 kl_6 (by decide) rfl io_0 (z := 4) rfl (rf_6_4 hG.1 io_0) (rk_6_4 io_0).1 ?_
    refine s_iconst dX8_count_137 ?_
    refine s_callV (d' := d - 1) (bc' := 0) (bs' := 0) (as := [_]) dX8_count_138 vf_X8_204 (dd_ (by omega) (by decide)) ⟨Nat.zero_le _, Nat.zero_le _⟩ rfl rfl (Nat.le_of_ble_eq_true rfl) kl_1 rfl (rk_6_4 io_0) ?_
    refine c_X2_told (rk_6_4 io_0) hG (by omega) (by omega) ?_
    rw [P.2.1 _ (by omega) (by omega)]
    have k9 := k _ C fc
    first
      | exact s_ireturn dX8_count_141 rfl k9
      | (unfold zcount at k9
         repeat rw [if_neg (by omega)] at k9
         first | exact s_ireturn dX8_count_141 rfl k9 | (rw [if_pos (by omega)] at k9; exact s_ireturn dX8_count_141 rfl k9))
  · refine s_tabIn (tgt := 142) dX8_count_1 (by first | exact hG.2 _ _ | exact b01_in _ | assumption | exact ⟨by omega, by omega⟩) (by decide) (by decide) rfl (by decide) ?_
    refine s_aload_n dX8_count_142 rfl ?_
    refine s_getr dX8_count_143 fl_X8_32 kl_6 (by decide) rfl io_0 (z := 4) rfl (rf_6_4 hG.1 io_0) (rk_6_4 io_0).1 ?_
    refine s_iconst dX8_count_146 ?_
    refine s_callV (d' := d - 1) (bc' := 0) (bs' := 0) (as := [_]) dX8_count_147 vf_X8_204 (dd_ (by omega) (by decide)) ⟨Nat.zero_le _, Nat.zero_le _⟩ rfl rfl (Nat.le_of_ble_eq_true rfl) kl_1 rfl (rk_6_4 io_0) ?_
    refine c_X2_told (rk_6_4 io_0) hG (by omega) (by omega) ?_
    rw [P.2.1 _ (by omega) (by omega)]
    have k9 := k _ C fc
    first
      | exact s_ireturn dX8_count_150 rfl k9
      | (unfold zcount at k9
         repeat rw [if_neg (by omega)] at k9
         first | exact s_ireturn dX8_count_150 rfl k9 | (rw [if_pos (by omega)] at k9; exact s_ireturn dX8_count_150 rfl k9))
  · refine s_tabIn (tgt := 151) dX8_count_1 (by first | exact hG.2 _ _ | exact b01_in _ | assumption | exact ⟨by omega, by omega⟩) (by decide) (by decide) rfl (by decide) ?_
    refine s_aload_n dX8_count_151 rfl ?_
    refine s_callV (d' := d - 1) (bc' := 0) (bs' := 0) (as := []) dX8_count_152 vf_X8_230 (dd_ (by omega) (by decide)) ⟨Nat.zero_le _, Nat.zero_le _⟩ rfl rfl (Nat.le_of_ble_eq_true rfl) kl_6 rfl io_0 ?_
    refine c_X8_countLiving (by omega) C ?_
    have k9 := k _ C fc
    first
      | exact s_ireturn dX8_count_155 rfl k9
      | (unfold zcount at k9
         repeat rw [if_neg (by omega)] at k9
         first | exact s_ireturn dX8_count_155 rfl k9 | (rw [if_pos (by omega)] at k9; exact s_ireturn dX8_count_155 rfl k9))
  · refine s_tabIn (tgt := 156) dX8_count_1 (by first | exact hG.2 _ _ | exact b01_in _ | assumption | exact ⟨by omega, by omega⟩) (by decide) (by decide) rfl (by decide) ?_
    refine s_aload_n dX8_count_156 rfl ?_
    refine s_callV (d' := d - 1) (bc' := 0) (bs' := 0) (as := []) dX8_count_157 vf_X8_387 (dd_ (by omega) (by decide)) ⟨Nat.zero_le _, Nat.zero_le _⟩ rfl rfl (Nat.le_of_ble_eq_true rfl) kl_6 rfl io_0 ?_
    refine c_X8_countHeld (by omega) C ?_
    have k9 := k _ C fc
    first
      | exact s_ireturn dX8_count_160 rfl k9
      | (unfold zcount at k9
         repeat rw [if_neg (by omega)] at k9
         first | exact s_ireturn dX8_count_160 rfl k9 | (rw [if_pos (by omega)] at k9; exact s_ireturn dX8_count_160 rfl k9))
  · refine s_tabIn (tgt := 161) dX8_count_1 (by first | exact hG.2 _ _ | exact b01_in _ | assumption | exact ⟨by omega, by omega⟩) (by decide) (by decide) rfl (by decide) ?_
    refine s_aload_n dX8_count_161 rfl ?_
    refine s_callV (d' := d - 1) (bc' := 0) (bs' := 0) (as := []) dX8_count_162 vf_X8_159 (dd_ (by omega) (by decide)) ⟨Nat.zero_le _, Nat.zero_le _⟩ rfl rfl (Nat.le_of_ble_eq_true rfl) kl_6 rfl io_0 ?_
    refine c_X8_reckoning (by omega) C (fun hh hG1 C st fc2 => ?_)
    have fc := fc.tr fc2
    obtain ⟨w, hw, W, hwf, P, CN⟩ := cr_w C
    have RD := cr_rd C st
    have hr := cr_rw C st hw
    have eN := P.1.2.2
    refine s_callV (d' := d - 1) (bc' := 0) (bs' := 0) (as := []) dX8_count_165 vf_X8_390 (dd_ (by omega) (by decide)) ⟨Nat.zero_le _, Nat.zero_le _⟩ rfl rfl (Nat.le_of_ble_eq_true rfl) kl_4 rfl (rk_6_6 io_0) ?_
    refine c_X5_countLapsed (rk_6_6 io_0) hG1 hr W (by omega) (by omega) ?_
    rw [eN, sumI_congr (g := fun g => if zlp z g = 0 then 0 else 1) _ _ (fun g a b => by rw [RD.2.1 g a (by omega)])]
    have k9 := k _ C fc
    first
      | exact s_ireturn dX8_count_168 rfl k9
      | (unfold zcount at k9
         repeat rw [if_neg (by omega)] at k9
         first | exact s_ireturn dX8_count_168 rfl k9 | (rw [if_pos (by omega)] at k9; exact s_ireturn dX8_count_168 rfl k9))
  · refine s_tabIn (tgt := 169) dX8_count_1 (by first | exact hG.2 _ _ | exact b01_in _ | assumption | exact ⟨by omega, by omega⟩) (by decide) (by decide) rfl (by decide) ?_
    refine s_aload_n dX8_count_169 rfl ?_
    refine s_callV (d' := d - 1) (bc' := 0) (bs' := 0) (as := []) dX8_count_170 vf_X8_159 (dd_ (by omega) (by decide)) ⟨Nat.zero_le _, Nat.zero_le _⟩ rfl rfl (Nat.le_of_ble_eq_true rfl) kl_6 rfl io_0 ?_
    refine c_X8_reckoning (by omega) C (fun hh hG2 C st fc2 => ?_)
    have fc := fc.tr fc2
    obtain ⟨w, hw, W, hwf, P, CN⟩ := cr_w C
    have RD := cr_rd C st
    have hr := cr_rw C st hw
    have eN := P.1.2.2
    refine s_geti dX8_count_173 fl_X8_393 kl_4 (by decide) rfl (rk_6_6 io_0) (z := 13) rfl ?_
    try simp (disch := omega) only [hs_same, hs_ne, fl_in, fl_ne, cp_inn, cp_nee]
    rw [RD.2.2.2.2.2.2.2.2.2.2.2.2]
    have k9 := k _ C fc
    first
      | exact s_ireturn dX8_count_176 rfl k9
      | (unfold zcount at k9
         repeat rw [if_neg (by omega)] at k9
         first | exact s_ireturn dX8_count_176 rfl k9 | (rw [if_pos (by omega)] at k9; exact s_ireturn dX8_count_176 rfl k9))
  · refine s_tabIn (tgt := 177) dX8_count_1 (by first | exact hG.2 _ _ | exact b01_in _ | assumption | exact ⟨by omega, by omega⟩) (by decide) (by decide) rfl (by decide) ?_
    refine s_aload_n dX8_count_177 rfl ?_
    refine s_getr dX8_count_178 fl_X8_39 kl_6 (by decide) rfl io_0 (z := 5) rfl (rf_6_5 hG.1 io_0) (rk_6_5 io_0).1 ?_
    refine s_geti dX8_count_181 fl_X8_251 kl_0 (by decide) rfl (rk_6_5 io_0) (z := 2) rfl ?_
    rw [show h (0 + 81) 2 = z 53 0 from ac]
    have k9 := k _ C fc
    first
      | exact s_ireturn dX8_count_184 rfl k9
      | (unfold zcount at k9
         repeat rw [if_neg (by omega)] at k9
         first | exact s_ireturn dX8_count_184 rfl k9 | (rw [if_pos (by omega)] at k9; exact s_ireturn dX8_count_184 rfl k9))
  · refine s_tabIn (tgt := 185) dX8_count_1 (by first | exact hG.2 _ _ | exact b01_in _ | assumption | exact ⟨by omega, by omega⟩) (by decide) (by decide) rfl (by decide) ?_
    refine s_aload_n dX8_count_185 rfl ?_
    refine s_getr dX8_count_186 fl_X8_65 kl_6 (by decide) rfl io_0 (z := 10) rfl (b := 195) (rf_6_10 hG.1 io_0) (by decide) ?_
    refine e_callB (d' := d - 1) (bc' := 0) (bs' := 0) (as := []) nh_0 dX8_count_189 (bf_v vf_X8_380 rfl) (dd_ (by omega) (by decide)) ⟨Nat.zero_le _, Nat.zero_le _⟩ rfl rfl (Nat.le_of_ble_eq_true rfl) ?_
    refine c_J4_length_8abf5 (by omega) ?_
    rw [a1]
    have k9 := k _ C fc
    first
      | exact s_ireturn dX8_count_192 rfl k9
      | (unfold zcount at k9
         repeat rw [if_neg (by omega)] at k9
         first | exact s_ireturn dX8_count_192 rfl k9 | (rw [if_pos (by omega)] at k9; exact s_ireturn dX8_count_192 rfl k9))
  · refine s_tabIn (tgt := 193) dX8_count_1 (by first | exact hG.2 _ _ | exact b01_in _ | assumption | exact ⟨by omega, by omega⟩) (by decide) (by decide) rfl (by decide) ?_
    refine s_aload_n dX8_count_193 rfl ?_
    refine s_callV (d' := d - 1) (bc' := 0) (bs' := 0) (as := []) dX8_count_194 vf_X8_396 (dd_ (by omega) (by decide)) ⟨Nat.zero_le _, Nat.zero_le _⟩ rfl rfl (Nat.le_of_ble_eq_true rfl) kl_6 rfl io_0 ?_
    refine c_X8_countRenounced (by omega) C ?_
    have k9 := k _ C fc
    first
      | exact s_ireturn dX8_count_197 rfl k9
      | (unfold zcount at k9
         repeat rw [if_neg (by omega)] at k9
         first | exact s_ireturn dX8_count_197 rfl k9 | (rw [if_pos (by omega)] at k9; exact s_ireturn dX8_count_197 rfl k9))
  · refine s_tabOut (tgt := 198) dX8_count_1 (by first | exact hG.2 _ _ | exact b01_in _ | assumption | exact ⟨by omega, by omega⟩) c1 (by decide) ?_
    refine s_iconst dX8_count_198 ?_
    have k9 := k _ C fc
    first
      | exact s_ireturn dX8_count_199 rfl k9
      | (unfold zcount at k9
         repeat rw [if_neg (by omega)] at k9
         first | exact s_ireturn dX8_count_199 rfl k9 | (rw [if_pos (by omega)] at k9; exact s_ireturn dX8_count_199 rfl k9))
end X8W
