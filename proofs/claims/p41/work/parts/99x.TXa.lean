/-! THE LAW'S TEXT: what is written is read right -/
/-- all but what is drawn and what is written stays -/
def FT_ (h0 h : PH) : Prop := ∀ x : Int, x ≠ 197 → x ≠ 198 → h x = h0 x
/-- its letters -/
def OL_ (u : UT) : Prop := ∀ k : Int, 0 ≤ k → k < u.1 → 0 ≤ u.2 k ∧ u.2 k < 128
theorem ol_c {u : UT} {x : Int} (o : OL_ u) (c0 : 0 ≤ x) (c1 : x < 128) : OL_ (tc_ u x) := fun k k0 k1 => by
  show 0 ≤ (if k = u.1 then x else u.2 k) ∧ (if k = u.1 then x else u.2 k) < 128
  have k2 : k < u.1 + 1 := k1
  split
  · exact ⟨c0, c1⟩
  · exact o k k0 (by omega)
theorem ol_n {u : UT} {v : Int} (o : OL_ u) : OL_ (tn_ u v) := fun k k0 k1 => by
  show 0 ≤ (if u.1 ≤ k ∧ k < u.1 + nd_ v then 48 + dt_ v (nd_ v - 1 - (k - u.1)) else u.2 k) ∧ (if u.1 ≤ k ∧ k < u.1 + nd_ v then 48 + dt_ v (nd_ v - 1 - (k - u.1)) else u.2 k) < 128
  have k2 : k < u.1 + nd_ v := k1
  split
  · unfold dt_
    omega
  · exact o k k0 (by omega)
theorem ol_x {u : UT} {j : Nat} (hj : j < 44) (o : OL_ u) : OL_ (tx_ u j) := fun k k0 k1 => by
  show 0 ≤ (if u.1 ≤ k ∧ k < u.1 + ((txb_ j).length : Int) then (txb_ j).getD (k - u.1).toNat 0 else u.2 k) ∧ (if u.1 ≤ k ∧ k < u.1 + ((txb_ j).length : Int) then (txb_ j).getD (k - u.1).toNat 0 else u.2 k) < 128
  have k2 : k < u.1 + ((txb_ j).length : Int) := k1
  split
  · exact txb_bd hj _
  · exact o k k0 (by omega)
/-- what is written is u, no longer than c; the room that is left -/
def TI_ (h0 : PH) (e c : Int) (bc bs : Nat) (h : PH) (u : UT) : Prop := TW_ h u ∧ PT_ bc bs h ∧ FT_ h0 h ∧ u.1 ≤ c ∧ e ≤ u.1 ∧ OL_ u
theorem ti_le {h0 : PH} {e e' c c' : Int} {bc bs : Nat} {h : PH} {u : UT} (I : TI_ h0 e c bc bs h u) (hc : c ≤ c') (he : e' ≤ e) : TI_ h0 e' c' bc bs h u := ⟨I.1, I.2.1, I.2.2.1, Int.le_trans I.2.2.2.1 hc, Int.le_trans he I.2.2.2.2.1, I.2.2.2.2.2⟩
theorem nd_3 {v : Int} (v1 : v < 1000) : nd_ v ≤ 3 := by
  unfold nd_
  split
  · decide
  · split
    · decide
    · try rw [if_pos v1]
      try decide
theorem g_d197 {h : PH} {v : Int} (hG : G h) (hv : inI v) : G (hs_ h 197 0 v) := g_putO 0 hG io_197 (by decide +kernel) rfl hv
theorem ti_of {h0 : PH} {e c : Int} {bc bs : Nat} {h : PH} {u : UT} {v : Int} (I : TI_ h0 e c bc bs h u) (hv : inI v) : TI_ h0 e c bc bs (hs_ h 197 0 v) u := by
  obtain ⟨⟨t1, t2, t3, t4, t5⟩, p, f, b⟩ := I
  have e : hs_ h 197 0 v 198 = h 198 := funext fun y => hs_ne h (fun z => absurd z.1 (by decide))
  refine ⟨⟨g_d197 t1 hv, ?_, ?_, ?_, ?_⟩, ?_, fun x a b => ?_, b⟩
  · unfold B5_
    rw [e]
    exact t2
  · rw [e]
    exact t3
  · rw [e]
    exact t4
  · rw [e]
    exact t5
  · unfold PT_
    rw [e]
    exact p
  · rw [← f x a b]
    exact funext fun y => hs_ne h (fun z => a z.1)
theorem ft_B {h0 h h1 : PH} (F : FT_ h0 h) (B : FB h h1) : FT_ h0 h1 := fun x a b => (B x b).trans (F x a b)
/-- what the text's end owes -/
def TE_ (h0 : PH) (Q : PQ) : Prop := ∀ (h : PH) (u : UT) (j : Nat) (V : PH → Prop), TW_ h u → FT_ h0 h → RT_ j u V → j ≤ 40 → u.1 ≤ 330 → 1 ≤ u.1 → OL_ u → ∀ (q b : Nat) (g : Nat → Int), (∀ k : Nat, (k : Int) < u.1 → g k = u.2 k) → (∀ k, inI (g k)) → Q.1 (some (6, (q : Int))) 201 (sx_ h q b u.1.toNat g)
section TXR
variable {d bc bs : Nat} {Q : PQ} {pc : Nat} {L st : List PV} {h h0 : PH} {u : UT} {e c : Int}
theorem x_of {n : Int} (hd : decode ML_text.2.1 pc = .ok (.invokevirtual 11, 3)) (d1 : 1 ≤ d) (n0 : 1 ≤ n) (n1 : n ≤ 1000) (I : TI_ h0 e c bc bs h u) (hcat : pcat_ st ≤ 8) (kk : ∀ (r : Int) (h1 : PH), 0 ≤ r → r < n → TI_ h0 e c bc bs h1 u → S_ ML_text d bc bs Q (pc + 3) L ((0, r) :: st) nM h1) (h5 : nk5_ L = true := by rfl) (h6 : nk5_ st = true := by rfl) : S_ ML_text d bc bs Q pc L ((0, n) :: (2, 197) :: st) nM h :=
  e_callV (d' := d - 1) (bc' := 0) (bs' := 0) (as := [(0, n)]) nh_0 hd vf_L_11 (dd_ (by omega) (by decide)) ⟨Nat.zero_le _, Nat.zero_le _⟩ rfl rfl hcat kl_7 rfl io_M197 (c_X9_of n0 n1 (fun r v r0 r1 vi => kk r _ r0 r1 (ti_of I vi))) h5 h6
theorem x_apc {x : Int} (hd : decode ML_text.2.1 pc = .ok (.invokevirtual 23, 3)) (d7 : 7 ≤ d) (I : TI_ h0 e c bc bs h u) (c0 : 0 ≤ x) (c1 : x < 128) (hl : c + 1 ≤ 480) (hcat : pcat_ st ≤ 8) (kk : ∀ (bc' bs' : Nat) (h1 : PH), TI_ h0 (e + 1) (c + 1) bc' bs' h1 (tc_ u x) → S_ ML_text d bc' bs' Q (pc + 3) L ((2, 198) :: st) nM h1) (h5 : nk5_ L = true := by rfl) (h6 : nk5_ st = true := by rfl) : S_ ML_text d bc bs Q pc L ((0, x) :: (2, 198) :: st) nM h := by
  obtain ⟨T, p, F, b, b0, o⟩ := I
  have pe := pt_eh (q := u.1 + 1) p T.2.1 (by omega) (h' := eh_ h (u.1 + 1)) rfl
  refine e_callB (d' := d - 1) (bc' := eb_ h (u.1 + 1)) (bs' := es_ h (u.1 + 1)) (as := [(0, x)]) nh_0 hd (bf_v vf_L_23 rfl) (dd_ (by omega) (by decide)) pe.1 rfl rfl hcat ?_ h5 h6
  exact c_J4_apc (by omega) T c0 c1 (by omega) (Nat.le_refl _) (Nat.le_refl _) (fun h1 t1 f1 e1 => kk _ _ h1 ⟨t1, (pt_eh p T.2.1 (by omega) e1).2, ft_B F f1, by show u.1 + 1 ≤ c + 1; omega, by show e + 1 ≤ u.1 + 1; omega, ol_c o c0 c1⟩)
theorem x_apn {v : Int} (hd : decode ML_text.2.1 pc = .ok (.invokevirtual 38, 3)) (d7 : 7 ≤ d) (I : TI_ h0 e c bc bs h u) (v0 : 0 ≤ v) (v1 : v < 1000) (hl : c + 3 ≤ 480) (hcat : pcat_ st ≤ 8) (kk : ∀ (bc' bs' : Nat) (h1 : PH), TI_ h0 (e + 1) (c + 3) bc' bs' h1 (tn_ u v) → S_ ML_text d bc' bs' Q (pc + 3) L ((2, 198) :: st) nM h1) (h5 : nk5_ L = true := by rfl) (h6 : nk5_ st = true := by rfl) : S_ ML_text d bc bs Q pc L ((0, v) :: (2, 198) :: st) nM h := by
  obtain ⟨T, p, F, b, b0, o⟩ := I
  have nb := nd_3 v1
  have nb2 := nd_bd' v
  have pe := pt_eh (q := u.1 + nd_ v) p T.2.1 (by omega) (h' := eh_ h (u.1 + nd_ v)) rfl
  refine e_callB (d' := d - 1) (bc' := eb_ h (u.1 + nd_ v)) (bs' := es_ h (u.1 + nd_ v)) (as := [(0, v)]) nh_0 hd (bf_v vf_L_38 rfl) (dd_ (by omega) (by decide)) pe.1 rfl rfl hcat ?_ h5 h6
  exact c_J4_apn (by omega) T v0 (by omega) (by omega) (Nat.le_refl _) (Nat.le_refl _) (fun h1 t1 f1 e1 => kk _ _ h1 ⟨t1, (pt_eh p T.2.1 (by omega) e1).2, ft_B F f1, by show u.1 + nd_ v ≤ c + 3; omega, by show e + 1 ≤ u.1 + nd_ v; omega, ol_n o⟩)
theorem x_aps {j : Nat} {l z : Int} (hj : j < 44) (hz : 1000 + (j : Int) = z) (hd : decode ML_text.2.1 pc = .ok (.invokevirtual 19, 3)) (d7 : 7 ≤ d) (I : TI_ h0 e c bc bs h u) (hlen : ((txb_ j).length : Int) = l) (hl : c + l ≤ 480) (hcat : pcat_ st ≤ 8) (kk : ∀ (bc' bs' : Nat) (h1 : PH), TI_ h0 (e + l) (c + l) bc' bs' h1 (tx_ u j) → S_ ML_text d bc' bs' Q (pc + 3) L ((2, 198) :: st) nM h1) (h5 : nk5_ L = true := by rfl) (h6 : nk5_ st = true := by rfl) : S_ ML_text d bc bs Q pc L ((2, z) :: (2, 198) :: st) nM h := by
  subst hz
  obtain ⟨T, p, F, b, b0, o⟩ := I
  have pe := pt_eh (q := u.1 + (txb_ j).length) p T.2.1 (by omega) (h' := eh_ h (u.1 + (txb_ j).length)) rfl
  refine e_callB (d' := d - 1) (bc' := eb_ h (u.1 + (txb_ j).length)) (bs' := es_ h (u.1 + (txb_ j).length)) (as := [(2, 1000 + (j : Int))]) nh_0 hd (bf_v vf_L_19 rfl) (dd_ (by omega) (by decide)) pe.1 rfl rfl hcat ?_ h5 h6
  exact c_J4_aps hj (by omega) T (by omega) (Nat.le_refl _) (Nat.le_refl _) (fun h1 t1 f1 e1 => kk _ _ h1 ⟨t1, (pt_eh p T.2.1 (by omega) e1).2, ft_B F f1, by show u.1 + ((txb_ j).length : Int) ≤ c + l; omega, by show e + l ≤ u.1 + ((txb_ j).length : Int); omega, ol_x hj o⟩)
end TXR
section TXT
variable {h0 : PH} {Q : PQ} {d bc bs : Nat} {h : PH} {P t : Int}
set_option maxRecDepth 100000 in
set_option maxHeartbeats 4000000 in
theorem t_616 (hd : 7 ≤ d) (K : TE_ h0 Q) {L : List PV} {u : UT} {j : Nat} {V : PH → Prop} (I : TI_ h0 1 330 bc bs h u) (R : RT_ j u V) (hj : j ≤ 40) (h5 : nk5_ L = true) (h1 : L[1]? = some (2, 198)) : S_ ML_text d bc bs Q 616 L [] nM h := by
  refine s_aload_n dL_text_616 h1 ?_
  have p := I.2.1
  have b := I.1.2.1.1
  have c := I.2.2.2.1
  obtain ⟨p1, p2⟩ := p
  exact s_toStr hd I.1 ⟨by omega, by omega⟩ h5 (fun q b g hg hgi => K h u j V I.1 I.2.2.1 R hj I.2.2.2.1 I.2.2.2.2.1 I.2.2.2.2.2 q b g hg hgi)
set_option maxRecDepth 100000 in
set_option maxHeartbeats 4000000 in
theorem t_601 (hd : 7 ≤ d) (K : TE_ h0 Q) {u : UT} {j : Nat} (I : TI_ h0 1 319 bc bs h u) (R : RT_ j u (fun _ => True)) (hj : j ≤ 39) : S_ ML_text d bc bs Q 601 [(2, 197), (2, 198), (0, P), (0, t), (9, 0), (9, 0), (9, 0)] [] nM h := by
  refine s_aload_n dL_text_601 rfl ?_
  refine s_iconst dL_text_602 ?_
  refine x_of dL_text_603 (by omega) (by omega) (by omega) I (Nat.le_of_ble_eq_true rfl) (fun r0 _ r0a r0b Id1 => ?_)
  refine s_if_ne (tgt := 616) dL_text_606 (by decide) ⟨by omega, by omega⟩ (fun c606 => ?_) (fun c606 => ?_)
  · exact t_616 hd K (ti_le Id1 (by omega) (by omega)) R (by omega) rfl rfl
  · refine s_aload_n dL_text_609 rfl ?_
    refine s_ldcS (j := 19) dL_text_610 (by decide) rfl rfl (z := 1043) rfl ?_
    refine x_aps (j := 43) (l := 11) (by decide) rfl dL_text_612 (by omega) Id1 (by decide +kernel) (by omega) (Nat.le_of_ble_eq_true rfl) (fun _ _ _ I612_2 => ?_)
    refine s_pop dL_text_615 rfl ?_
    exact t_616 hd K (ti_le I612_2 (by omega) (by omega)) (rt_rule R) (by omega) rfl rfl
set_option maxRecDepth 100000 in
set_option maxHeartbeats 4000000 in
theorem t_572 (hd : 7 ≤ d) (K : TE_ h0 Q) {u : UT} {j : Nat} (I : TI_ h0 1 308 bc bs h u) (R : RT_ j u (fun _ => True)) (hj : j ≤ 38) : S_ ML_text d bc bs Q 572 [(2, 197), (2, 198), (0, P), (0, t), (9, 0), (9, 0), (9, 0)] [] nM h := by
  refine s_aload_n dL_text_572 rfl ?_
  refine s_iconst dL_text_573 ?_
  refine x_of dL_text_574 (by omega) (by omega) (by omega) I (Nat.le_of_ble_eq_true rfl) (fun r0 _ r0a r0b Id1 => ?_)
  refine s_if_ne (tgt := 601) dL_text_577 (by decide) ⟨by omega, by omega⟩ (fun c577 => ?_) (fun c577 => ?_)
  · exact t_601 hd K (ti_le Id1 (by omega) (by omega)) R (by omega)
  · refine s_aload_n dL_text_580 rfl ?_
    refine s_ldcS (j := 18) dL_text_581 (by decide) rfl rfl (z := 1042) rfl ?_
    refine x_aps (j := 42) (l := 7) (by decide) rfl dL_text_583 (by omega) Id1 (by decide +kernel) (by omega) (Nat.le_of_ble_eq_true rfl) (fun _ _ _ I583_2 => ?_)
    refine s_aload_n dL_text_586 rfl ?_
    refine s_bipush dL_text_587 (by decide) ?_
    refine x_of dL_text_589 (by omega) (by omega) (by omega) I583_2 (Nat.le_of_ble_eq_true rfl) (fun x _ xa xb I583_2d3 => ?_)
    refine x_apn dL_text_592 (by omega) I583_2d3 (by omega) (by omega) (by omega) (Nat.le_of_ble_eq_true rfl) (fun _ _ _ I592_4 => ?_)
    refine s_ldcS (j := 1) dL_text_595 (by decide) rfl rfl (z := 1025) rfl ?_
    refine x_aps (j := 25) (l := 1) (by decide) rfl dL_text_597 (by omega) I592_4 (by decide +kernel) (by omega) (Nat.le_of_ble_eq_true rfl) (fun _ _ _ I597_5 => ?_)
    refine s_pop dL_text_600 rfl ?_
    exact t_601 hd K (ti_le I597_5 (by omega) (by omega)) (rt_months R xa (by omega) (by omega)) (by omega)
set_option maxRecDepth 100000 in
set_option maxHeartbeats 4000000 in
theorem t_543 (hd : 7 ≤ d) (K : TE_ h0 Q) {G K9 : Int} {u : UT} {j : Nat} (I : TI_ h0 1 289 bc bs h u) (R : RT_ j u (VD_ P t G K9)) (hj : j ≤ 37) (P0 : 2 ≤ P) (P1 : P ≤ 5) (t0 : 1 ≤ t) (t1 : t ≤ 3) : S_ ML_text d bc bs Q 543 [(2, 197), (2, 198), (0, P), (0, t), (9, 0), (9, 0), (9, 0)] [] nM h := by
  refine s_aload_n dL_text_543 rfl ?_
  refine s_iconst dL_text_544 ?_
  refine x_of dL_text_545 (by omega) (by omega) (by omega) I (Nat.le_of_ble_eq_true rfl) (fun r0 _ r0a r0b Id1 => ?_)
  refine s_if_ne (tgt := 572) dL_text_548 (by decide) ⟨by omega, by omega⟩ (fun c548 => ?_) (fun c548 => ?_)
  · exact t_572 hd K (ti_le Id1 (by omega) (by omega)) (rt_v R (fun _ _ => trivial)) (by omega)
  · refine s_aload_n dL_text_551 rfl ?_
    refine s_ldcS (j := 17) dL_text_552 (by decide) rfl rfl (z := 1041) rfl ?_
    refine x_aps (j := 41) (l := 15) (by decide) rfl dL_text_554 (by omega) Id1 (by decide +kernel) (by omega) (Nat.le_of_ble_eq_true rfl) (fun _ _ _ I554_2 => ?_)
    refine s_aload_n dL_text_557 rfl ?_
    refine s_bipush dL_text_558 (by decide) ?_
    refine x_of dL_text_560 (by omega) (by omega) (by omega) I554_2 (Nat.le_of_ble_eq_true rfl) (fun x _ xa xb I554_2d3 => ?_)
    refine x_apn dL_text_563 (by omega) I554_2d3 (by omega) (by omega) (by omega) (Nat.le_of_ble_eq_true rfl) (fun _ _ _ I563_4 => ?_)
    refine s_ldcS (j := 1) dL_text_566 (by decide) rfl rfl (z := 1025) rfl ?_
    refine x_aps (j := 25) (l := 1) (by decide) rfl dL_text_568 (by omega) I563_4 (by decide +kernel) (by omega) (Nat.le_of_ble_eq_true rfl) (fun _ _ _ I568_5 => ?_)
    refine s_pop dL_text_571 rfl ?_
    exact t_572 hd K (ti_le I568_5 (by omega) (by omega)) (rt_lost R (by omega) (by omega) xa (by omega)) (by omega)
set_option maxRecDepth 100000 in
set_option maxHeartbeats 4000000 in
theorem t_528 (hd : 7 ≤ d) (K : TE_ h0 Q) {G K9 : Int} {u : UT} {j : Nat} (I : TI_ h0 1 282 bc bs h u) (R : RT_ j u (VV_ P t G K9)) (hj : j ≤ 36) (P0 : 2 ≤ P) (P1 : P ≤ 5) (t0 : 1 ≤ t) (t1 : t ≤ 3) : S_ ML_text d bc bs Q 528 [(2, 197), (2, 198), (0, P), (0, t), (9, 0), (9, 0), (9, 0)] [] nM h := by
  refine s_aload_n dL_text_528 rfl ?_
  refine s_iconst dL_text_529 ?_
  refine x_of dL_text_530 (by omega) (by omega) (by omega) I (Nat.le_of_ble_eq_true rfl) (fun r0 _ r0a r0b Id1 => ?_)
  refine s_if_ne (tgt := 543) dL_text_533 (by decide) ⟨by omega, by omega⟩ (fun c533 => ?_) (fun c533 => ?_)
  · exact t_543 hd K (ti_le Id1 (by omega) (by omega)) (rt_v R (fun _ v => vd_of v)) (by omega) P0 P1 t0 t1
  · refine s_aload_n dL_text_536 rfl ?_
    refine s_ldcS (j := 16) dL_text_537 (by decide) rfl rfl (z := 1040) rfl ?_
    refine x_aps (j := 40) (l := 7) (by decide) rfl dL_text_539 (by omega) Id1 (by decide +kernel) (by omega) (Nat.le_of_ble_eq_true rfl) (fun _ _ _ I539_2 => ?_)
    refine s_pop dL_text_542 rfl ?_
    exact t_543 hd K (ti_le I539_2 (by omega) (by omega)) (rt_dead R (by omega) (by omega)) (by omega) P0 P1 t0 t1
set_option maxRecDepth 100000 in
set_option maxHeartbeats 4000000 in
theorem l_475 (hd : 7 ≤ d) (K : TE_ h0 Q) {K9 n : Int} (P0 : 2 ≤ P) (P1 : P ≤ 5) (t0 : 1 ≤ t) (t1 : t ≤ 3) (K0 : 0 ≤ K9) (n1 : n ≤ 2) : ∀ (m : Nat) {bc bs : Nat} {h : PH} {u : UT} {j : Nat} {G : Int} (k : Int) (k0 : 0 ≤ k) (km : k + m = n) (I : TI_ h0 1 (254 + 14 * k) bc bs h u) (R : RT_ j u (VV_ P t G K9)) (hj : j ≤ 16 + k) (hg : G ≤ 6 + k), S_ ML_text d bc bs Q 475 [(2, 197), (2, 198), (0, P), (0, t), (9, 0), (0, n), (0, k)] [] nM h := by
  intro m
  induction m with
  | zero =>
    intro bc bs h u j G k k0 km I R hj hg
    refine s_iload dL_text_475 rfl ?_
    refine s_iload dL_text_477 rfl ?_
    refine s_icmp_ge (tgt := 528) dL_text_479 (by decide) ⟨by omega, by omega⟩ ⟨by omega, by omega⟩ (fun c479 => ?_) (fun c479 => ?_)
    · refine s_fg (L' := [_, _, _, _, (9, 0), (9, 0), (9, 0)]) ⟨Or.inr rfl, Or.inr rfl, Or.inr rfl, Or.inr rfl, Or.inl rfl, Or.inl rfl, Or.inl rfl, trivial⟩ ?_
      exact t_528 hd K (ti_le I (by omega) (by omega)) R (by omega) P0 P1 t0 t1
    · exact absurd c479 (by omega)
  | succ m ih =>
    intro bc bs h u j G k k0 km I R hj hg
    refine s_iload dL_text_475 rfl ?_
    refine s_iload dL_text_477 rfl ?_
    refine s_icmp_ge (tgt := 528) dL_text_479 (by decide) ⟨by omega, by omega⟩ ⟨by omega, by omega⟩ (fun c479 => ?_) (fun c479 => ?_)
    · exact absurd c479 (by omega)
    · refine s_aload_n dL_text_482 rfl ?_
      refine s_ldcS (j := 15) dL_text_483 (by decide) rfl rfl (z := 1039) rfl ?_
      refine x_aps (j := 39) (l := 5) (by decide) rfl dL_text_485 (by omega) I (by decide +kernel) (by omega) (Nat.le_of_ble_eq_true rfl) (fun _ _ _ I485_1 => ?_)
      refine s_iconst dL_text_488 ?_
      refine s_aload_n dL_text_489 rfl ?_
      refine s_bipush dL_text_490 (by decide) ?_
      refine x_of dL_text_492 (by omega) (by omega) (by omega) I485_1 (Nat.le_of_ble_eq_true rfl) (fun x _ xa xb I485_1d2 => ?_)
      refine s_iadd dL_text_495 ?_
      refine x_apn dL_text_496 (by omega) I485_1d2 (by omega) (by omega) (by omega) (Nat.le_of_ble_eq_true rfl) (fun _ _ _ I496_3 => ?_)
      refine s_ldcS (j := 10) dL_text_499 (by decide) rfl rfl (z := 1034) rfl ?_
      refine x_aps (j := 34) (l := 4) (by decide) rfl dL_text_501 (by omega) I496_3 (by decide +kernel) (by omega) (Nat.le_of_ble_eq_true rfl) (fun _ _ _ I501_4 => ?_)
      refine s_bipush dL_text_504 (by decide) ?_
      refine s_aload_n dL_text_506 rfl ?_
      refine s_iload_n dL_text_507 rfl ?_
      refine x_of dL_text_508 (by omega) (by omega) (by omega) I501_4 (Nat.le_of_ble_eq_true rfl) (fun q _ qa qb I501_4d5 => ?_)
      refine s_iadd dL_text_511 ?_
      refine s_i2c dL_text_512 ?_
      rw [Int.emod_eq_of_lt (a := (97 + q)) (by omega) (by omega)]
      refine x_apc dL_text_513 (by omega) I501_4d5 (by omega) (by omega) (by omega) (Nat.le_of_ble_eq_true rfl) (fun _ _ _ I513_6 => ?_)
      refine s_ldcS (j := 1) dL_text_516 (by decide) rfl rfl (z := 1025) rfl ?_
      refine x_aps (j := 25) (l := 1) (by decide) rfl dL_text_518 (by omega) I513_6 (by decide +kernel) (by omega) (Nat.le_of_ble_eq_true rfl) (fun _ _ _ I518_7 => ?_)
      refine s_pop dL_text_521 rfl ?_
      refine s_iinc dL_text_522 rfl (by decide) rfl (L' := [_, _, _, _, _, _, _]) rfl ?_
      refine s_goto (tgt := 475) dL_text_525 (by decide) ?_
      exact ih (k + 1) (by omega) (by omega) (ti_le I518_7 (by omega) (by omega)) (rt_rest R K0 (by omega) (by omega) (by omega) qa qb (by omega) (by omega)) (by omega) (by omega)
set_option maxRecDepth 100000 in
set_option maxHeartbeats 4000000 in
theorem t_465 (hd : 7 ≤ d) (K : TE_ h0 Q) {G K9 : Int} {u : UT} {j : Nat} (I : TI_ h0 1 254 bc bs h u) (R : RT_ j u (VV_ P t G K9)) (hj : j ≤ 16) (hg : G ≤ 6) (K0 : 0 ≤ K9) (P0 : 2 ≤ P) (P1 : P ≤ 5) (t0 : 1 ≤ t) (t1 : t ≤ 3) : S_ ML_text d bc bs Q 465 [(2, 197), (2, 198), (0, P), (0, t), (9, 0), (9, 0), (9, 0)] [] nM h := by
  refine s_aload_n dL_text_465 rfl ?_
  refine s_iconst dL_text_466 ?_
  refine x_of dL_text_467 (by omega) (by omega) (by omega) I (Nat.le_of_ble_eq_true rfl) (fun x _ xa xb Id1 => ?_)
  refine s_istore dL_text_470 (by decide) rfl (L' := [_, _, _, _, _, _, _]) rfl ?_
  refine s_iconst dL_text_472 ?_
  refine s_istore dL_text_473 (by decide) rfl (L' := [_, _, _, _, _, _, _]) rfl ?_
  exact l_475 hd K P0 P1 t0 t1 K0 (by omega) x.toNat 0 (by omega) (by omega) (ti_le Id1 (by omega) (by omega)) R (by omega) (by omega)
set_option maxRecDepth 100000 in
set_option maxHeartbeats 4000000 in
theorem l_398 (hd : 7 ≤ d) (K : TE_ h0 Q) {K9 n : Int} (P0 : 2 ≤ P) (P1 : P ≤ 5) (t0 : 1 ≤ t) (t1 : t ≤ 3) (K0 : 0 ≤ K9) (n1 : n ≤ 3) : ∀ (m : Nat) {bc bs : Nat} {h : PH} {u : UT} {j : Nat} {G : Int} (k : Int) (k0 : 0 ≤ k) (km : k + m = n) (I : TI_ h0 1 (194 + 20 * k) bc bs h u) (R : RT_ j u (VV_ P t G K9)) (hj : j ≤ 13 + k) (hg : G ≤ 3 + k), S_ ML_text d bc bs Q 398 [(2, 197), (2, 198), (0, P), (0, t), (0, n), (0, k), (9, 0)] [] nM h := by
  intro m
  induction m with
  | zero =>
    intro bc bs h u j G k k0 km I R hj hg
    refine s_iload dL_text_398 rfl ?_
    refine s_iload dL_text_400 rfl ?_
    refine s_icmp_ge (tgt := 465) dL_text_402 (by decide) ⟨by omega, by omega⟩ ⟨by omega, by omega⟩ (fun c402 => ?_) (fun c402 => ?_)
    · refine s_fg (L' := [_, _, _, _, (9, 0), (9, 0), (9, 0)]) ⟨Or.inr rfl, Or.inr rfl, Or.inr rfl, Or.inr rfl, Or.inl rfl, Or.inl rfl, Or.inl rfl, trivial⟩ ?_
      exact t_465 hd K (ti_le I (by omega) (by omega)) R (by omega) (by omega) K0 P0 P1 t0 t1
    · exact absurd c402 (by omega)
  | succ m ih =>
    intro bc bs h u j G k k0 km I R hj hg
    refine s_iload dL_text_398 rfl ?_
    refine s_iload dL_text_400 rfl ?_
    refine s_icmp_ge (tgt := 465) dL_text_402 (by decide) ⟨by omega, by omega⟩ ⟨by omega, by omega⟩ (fun c402 => ?_) (fun c402 => ?_)
    · exact absurd c402 (by omega)
    · refine s_aload_n dL_text_405 rfl ?_
      refine s_ldcS (j := 13) dL_text_406 (by decide) rfl rfl (z := 1037) rfl ?_
      refine x_aps (j := 37) (l := 4) (by decide) rfl dL_text_408 (by omega) I (by decide +kernel) (by omega) (Nat.le_of_ble_eq_true rfl) (fun _ _ _ I408_1 => ?_)
      refine s_iconst dL_text_411 ?_
      refine s_aload_n dL_text_412 rfl ?_
      refine s_sipush dL_text_413 (by decide) ?_
      refine x_of dL_text_416 (by omega) (by omega) (by omega) I408_1 (Nat.le_of_ble_eq_true rfl) (fun x _ xa xb I408_1d2 => ?_)
      refine s_iadd dL_text_419 ?_
      refine x_apn dL_text_420 (by omega) I408_1d2 (by omega) (by omega) (by omega) (Nat.le_of_ble_eq_true rfl) (fun _ _ _ I420_3 => ?_)
      refine s_ldcS (j := 10) dL_text_423 (by decide) rfl rfl (z := 1034) rfl ?_
      refine x_aps (j := 34) (l := 4) (by decide) rfl dL_text_425 (by omega) I420_3 (by decide +kernel) (by omega) (Nat.le_of_ble_eq_true rfl) (fun _ _ _ I425_4 => ?_)
      refine s_bipush dL_text_428 (by decide) ?_
      refine s_aload_n dL_text_430 rfl ?_
      refine s_iload_n dL_text_431 rfl ?_
      refine x_of dL_text_432 (by omega) (by omega) (by omega) I425_4 (Nat.le_of_ble_eq_true rfl) (fun q _ qa qb I425_4d5 => ?_)
      refine s_iadd dL_text_435 ?_
      refine s_i2c dL_text_436 ?_
      rw [Int.emod_eq_of_lt (a := (97 + q)) (by omega) (by omega)]
      refine x_apc dL_text_437 (by omega) I425_4d5 (by omega) (by omega) (by omega) (Nat.le_of_ble_eq_true rfl) (fun _ _ _ I437_6 => ?_)
      refine s_aload_n dL_text_440 rfl ?_
      refine s_iconst dL_text_441 ?_
      refine x_of dL_text_442 (by omega) (by omega) (by omega) I437_6 (Nat.le_of_ble_eq_true rfl) (fun r _ ra rb I437_6d7 => ?_)
      refine s_if_ne (tgt := 453) dL_text_445 (by decide) ⟨by omega, by omega⟩ (fun c445 => ?_) (fun c445 => ?_)
      · refine s_ldcS (j := 1) dL_text_453 (by decide) rfl rfl (z := 1025) rfl ?_
        refine x_aps (j := 25) (l := 1) (by decide) rfl dL_text_455 (by omega) I437_6d7 (by decide +kernel) (by omega) (Nat.le_of_ble_eq_true rfl) (fun _ _ _ I455_8 => ?_)
        refine s_pop dL_text_458 rfl ?_
        refine s_iinc dL_text_459 rfl (by decide) rfl (L' := [_, _, _, _, _, _, _]) rfl ?_
        refine s_goto (tgt := 398) dL_text_462 (by decide) ?_
        exact ih (k + 1) (by omega) (by omega) (ti_le I455_8 (by omega) (by omega)) (rt_sum R K0 (by omega) (by omega) (by omega) qa qb (by omega) (by omega)) (by omega) (by omega)
      · refine s_ldcS (j := 14) dL_text_448 (by decide) rfl rfl (z := 1038) rfl ?_
        refine s_goto (tgt := 455) dL_text_450 (by decide) ?_
        refine x_aps (j := 38) (l := 8) (by decide) rfl dL_text_455 (by omega) I437_6d7 (by decide +kernel) (by omega) (Nat.le_of_ble_eq_true rfl) (fun _ _ _ I455_8 => ?_)
        refine s_pop dL_text_458 rfl ?_
        refine s_iinc dL_text_459 rfl (by decide) rfl (L' := [_, _, _, _, _, _, _]) rfl ?_
        refine s_goto (tgt := 398) dL_text_462 (by decide) ?_
        exact ih (k + 1) (by omega) (by omega) (ti_le I455_8 (by omega) (by omega)) (rt_sum2 R K0 (by omega) (by omega) (by omega) qa qb (by omega) (by omega)) (by omega) (by omega)
set_option maxRecDepth 100000 in
set_option maxHeartbeats 4000000 in
theorem t_388 (hd : 7 ≤ d) (K : TE_ h0 Q) {G K9 : Int} {u : UT} {j : Nat} (I : TI_ h0 1 194 bc bs h u) (R : RT_ j u (VV_ P t G K9)) (hj : j ≤ 13) (hg : G ≤ 3) (K0 : 0 ≤ K9) (P0 : 2 ≤ P) (P1 : P ≤ 5) (t0 : 1 ≤ t) (t1 : t ≤ 3) : S_ ML_text d bc bs Q 388 [(2, 197), (2, 198), (0, P), (0, t), (9, 0), (9, 0), (9, 0)] [] nM h := by
  refine s_aload_n dL_text_388 rfl ?_
  refine s_iconst dL_text_389 ?_
  refine x_of dL_text_390 (by omega) (by omega) (by omega) I (Nat.le_of_ble_eq_true rfl) (fun x _ xa xb Id1 => ?_)
  refine s_istore dL_text_393 (by decide) rfl (L' := [_, _, _, _, _, _, _]) rfl ?_
  refine s_iconst dL_text_395 ?_
  refine s_istore dL_text_396 (by decide) rfl (L' := [_, _, _, _, _, _, _]) rfl ?_
  exact l_398 hd K P0 P1 t0 t1 K0 (by omega) x.toNat 0 (by omega) (by omega) (ti_le Id1 (by omega) (by omega)) R (by omega) (by omega)
set_option maxRecDepth 100000 in
set_option maxHeartbeats 4000000 in
theorem l_250 (hd : 7 ≤ d) (K : TE_ h0 Q) (P0 : 2 ≤ P) (P1 : P ≤ 5) (t0 : 1 ≤ t) (t1 : t ≤ 3) : ∀ (m : Nat) {bc bs : Nat} {h : PH} {u : UT} {j : Nat} {G K9 : Int} (k : Int) (k0 : 0 ≤ k) (km : k + m = t) (I : TI_ h0 1 (119 + 25 * k) bc bs h u) (R : RT_ j u (VV_ P t G K9)) (hj : j ≤ 10 + k) (hg : G ≤ k) (K0 : 0 ≤ K9) (hk : K9 ≤ k), S_ ML_text d bc bs Q 250 [(2, 197), (2, 198), (0, P), (0, t), (0, k), (9, 0), (9, 0)] [] nM h := by
  intro m
  induction m with
  | zero =>
    intro bc bs h u j G K9 k k0 km I R hj hg K0 hk
    refine s_iload dL_text_250 rfl ?_
    refine s_iload_n dL_text_252 rfl ?_
    refine s_icmp_ge (tgt := 388) dL_text_253 (by decide) ⟨by omega, by omega⟩ ⟨by omega, by omega⟩ (fun c253 => ?_) (fun c253 => ?_)
    · refine s_fg (L' := [_, _, _, _, (9, 0), (9, 0), (9, 0)]) ⟨Or.inr rfl, Or.inr rfl, Or.inr rfl, Or.inr rfl, Or.inl rfl, Or.inl rfl, Or.inl rfl, trivial⟩ ?_
      exact t_388 hd K (ti_le I (by omega) (by omega)) R (by omega) (by omega) K0 P0 P1 t0 t1
    · exact absurd c253 (by omega)
  | succ m ih =>
    intro bc bs h u j G K9 k k0 km I R hj hg K0 hk
    refine s_iload dL_text_250 rfl ?_
    refine s_iload_n dL_text_252 rfl ?_
    refine s_icmp_ge (tgt := 388) dL_text_253 (by decide) ⟨by omega, by omega⟩ ⟨by omega, by omega⟩ (fun c253 => ?_) (fun c253 => ?_)
    · exact absurd c253 (by omega)
    · refine s_aload_n dL_text_256 rfl ?_
      refine s_iconst dL_text_257 ?_
      refine x_of dL_text_258 (by omega) (by omega) (by omega) I (Nat.le_of_ble_eq_true rfl) (fun w _ wa wb Id1 => ?_)
      refine s_istore dL_text_261 (by decide) rfl (L' := [_, _, _, _, _, _, _]) rfl ?_
      refine s_iload dL_text_263 rfl ?_
      refine s_if_ne (tgt := 306) dL_text_265 (by decide) ⟨by omega, by omega⟩ (fun c265 => ?_) (fun c265 => ?_)
      · refine s_iload dL_text_306 rfl ?_
        refine s_iconst dL_text_308 ?_
        refine s_icmp_ne (tgt := 382) dL_text_309 (by decide) ⟨by omega, by omega⟩ ⟨by omega, by omega⟩ (fun c309 => ?_) (fun c309 => ?_)
        · refine s_iinc dL_text_382 rfl (by decide) rfl (L' := [_, _, _, _, _, _, _]) rfl ?_
          refine s_goto (tgt := 250) dL_text_385 (by decide) ?_
          refine s_fg (L' := [_, _, _, _, _, (9, 0), (9, 0)]) ⟨Or.inr rfl, Or.inr rfl, Or.inr rfl, Or.inr rfl, Or.inr rfl, Or.inl rfl, Or.inl rfl, trivial⟩ ?_
          exact ih (k + 1) (by omega) (by omega) (ti_le Id1 (by omega) (by omega)) R (by omega) (by omega) (by omega) (by omega)
        · refine s_aload_n dL_text_312 rfl ?_
          refine s_ldcS (j := 11) dL_text_313 (by decide) rfl rfl (z := 1035) rfl ?_
          refine x_aps (j := 35) (l := 5) (by decide) rfl dL_text_315 (by omega) Id1 (by decide +kernel) (by omega) (Nat.le_of_ble_eq_true rfl) (fun _ _ _ I315_2 => ?_)
          refine s_bipush dL_text_318 (by decide) ?_
          refine s_iload dL_text_320 rfl ?_
          refine s_iadd dL_text_322 ?_
          refine s_i2c dL_text_323 ?_
          rw [Int.emod_eq_of_lt (a := (116 + k)) (by omega) (by omega)]
          refine x_apc dL_text_324 (by omega) I315_2 (by omega) (by omega) (by omega) (Nat.le_of_ble_eq_true rfl) (fun _ _ _ I324_3 => ?_)
          refine s_ldcS (j := 6) dL_text_327 (by decide) rfl rfl (z := 1030) rfl ?_
          refine x_aps (j := 30) (l := 1) (by decide) rfl dL_text_329 (by omega) I324_3 (by decide +kernel) (by omega) (Nat.le_of_ble_eq_true rfl) (fun _ _ _ I329_4 => ?_)
          refine s_iconst dL_text_332 ?_
          refine s_aload_n dL_text_333 rfl ?_
          refine s_sipush dL_text_334 (by decide) ?_
          refine x_of dL_text_337 (by omega) (by omega) (by omega) I329_4 (Nat.le_of_ble_eq_true rfl) (fun x _ xa xb I329_4d5 => ?_)
          refine s_iadd dL_text_340 ?_
          refine x_apn dL_text_341 (by omega) I329_4d5 (by omega) (by omega) (by omega) (Nat.le_of_ble_eq_true rfl) (fun _ _ _ I341_6 => ?_)
          refine s_ldcS (j := 10) dL_text_344 (by decide) rfl rfl (z := 1034) rfl ?_
          refine x_aps (j := 34) (l := 4) (by decide) rfl dL_text_346 (by omega) I341_6 (by decide +kernel) (by omega) (Nat.le_of_ble_eq_true rfl) (fun _ _ _ I346_7 => ?_)
          refine s_bipush dL_text_349 (by decide) ?_
          refine s_aload_n dL_text_351 rfl ?_
          refine s_iload_n dL_text_352 rfl ?_
          refine x_of dL_text_353 (by omega) (by omega) (by omega) I346_7 (Nat.le_of_ble_eq_true rfl) (fun q _ qa qb I346_7d8 => ?_)
          refine s_iadd dL_text_356 ?_
          refine s_i2c dL_text_357 ?_
          rw [Int.emod_eq_of_lt (a := (97 + q)) (by omega) (by omega)]
          refine x_apc dL_text_358 (by omega) I346_7d8 (by omega) (by omega) (by omega) (Nat.le_of_ble_eq_true rfl) (fun _ _ _ I358_9 => ?_)
          refine s_ldcS (j := 12) dL_text_361 (by decide) rfl rfl (z := 1036) rfl ?_
          refine x_aps (j := 36) (l := 6) (by decide) rfl dL_text_363 (by omega) I358_9 (by decide +kernel) (by omega) (Nat.le_of_ble_eq_true rfl) (fun _ _ _ I363_10 => ?_)
          refine s_iconst dL_text_366 ?_
          refine s_aload_n dL_text_367 rfl ?_
          refine s_iconst dL_text_368 ?_
          refine x_of dL_text_369 (by omega) (by omega) (by omega) I363_10 (Nat.le_of_ble_eq_true rfl) (fun r _ ra rb I363_10d11 => ?_)
          refine s_iadd dL_text_372 ?_
          refine x_apn dL_text_373 (by omega) I363_10d11 (by omega) (by omega) (by omega) (Nat.le_of_ble_eq_true rfl) (fun _ _ _ I373_12 => ?_)
          refine s_ldcS (j := 1) dL_text_376 (by decide) rfl rfl (z := 1025) rfl ?_
          refine x_aps (j := 25) (l := 1) (by decide) rfl dL_text_378 (by omega) I373_12 (by decide +kernel) (by omega) (Nat.le_of_ble_eq_true rfl) (fun _ _ _ I378_13 => ?_)
          refine s_pop dL_text_381 rfl ?_
          refine s_iinc dL_text_382 rfl (by decide) rfl (L' := [_, _, _, _, _, _, _]) rfl ?_
          refine s_goto (tgt := 250) dL_text_385 (by decide) ?_
          refine s_fg (L' := [_, _, _, _, _, (9, 0), (9, 0)]) ⟨Or.inr rfl, Or.inr rfl, Or.inr rfl, Or.inr rfl, Or.inr rfl, Or.inl rfl, Or.inl rfl, trivial⟩ ?_
          exact ih (k + 1) (by omega) (by omega) (ti_le I378_13 (by omega) (by omega)) (rt_from R (by omega) (by omega) (by omega) qa qb k0 (by omega) hk (by omega) (by omega) (by omega) (by omega)) (by omega) (by omega) (by omega) (by omega)
      · refine s_aload_n dL_text_268 rfl ?_
        refine s_ldcS (j := 9) dL_text_269 (by decide) rfl rfl (z := 1033) rfl ?_
        refine x_aps (j := 33) (l := 5) (by decide) rfl dL_text_271 (by omega) Id1 (by decide +kernel) (by omega) (Nat.le_of_ble_eq_true rfl) (fun _ _ _ I271_2 => ?_)
        refine s_bipush dL_text_274 (by decide) ?_
        refine s_iload dL_text_276 rfl ?_
        refine s_iadd dL_text_278 ?_
        refine s_i2c dL_text_279 ?_
        rw [Int.emod_eq_of_lt (a := (116 + k)) (by omega) (by omega)]
        refine x_apc dL_text_280 (by omega) I271_2 (by omega) (by omega) (by omega) (Nat.le_of_ble_eq_true rfl) (fun _ _ _ I280_3 => ?_)
        refine s_ldcS (j := 10) dL_text_283 (by decide) rfl rfl (z := 1034) rfl ?_
        refine x_aps (j := 34) (l := 4) (by decide) rfl dL_text_285 (by omega) I280_3 (by decide +kernel) (by omega) (Nat.le_of_ble_eq_true rfl) (fun _ _ _ I285_4 => ?_)
        refine s_bipush dL_text_288 (by decide) ?_
        refine s_aload_n dL_text_290 rfl ?_
        refine s_iload_n dL_text_291 rfl ?_
        refine x_of dL_text_292 (by omega) (by omega) (by omega) I285_4 (Nat.le_of_ble_eq_true rfl) (fun q _ qa qb I285_4d5 => ?_)
        refine s_iadd dL_text_295 ?_
        refine s_i2c dL_text_296 ?_
        rw [Int.emod_eq_of_lt (a := (97 + q)) (by omega) (by omega)]
        refine x_apc dL_text_297 (by omega) I285_4d5 (by omega) (by omega) (by omega) (Nat.le_of_ble_eq_true rfl) (fun _ _ _ I297_6 => ?_)
        refine s_ldcS (j := 1) dL_text_300 (by decide) rfl rfl (z := 1025) rfl ?_
        refine x_aps (j := 25) (l := 1) (by decide) rfl dL_text_302 (by omega) I297_6 (by decide +kernel) (by omega) (Nat.le_of_ble_eq_true rfl) (fun _ _ _ I302_7 => ?_)
        refine s_pop dL_text_305 rfl ?_
        refine s_iload dL_text_306 rfl ?_
        refine s_iconst dL_text_308 ?_
        refine s_icmp_ne (tgt := 382) dL_text_309 (by decide) ⟨by omega, by omega⟩ ⟨by omega, by omega⟩ (fun c309 => ?_) (fun c309 => ?_)
        · refine s_iinc dL_text_382 rfl (by decide) rfl (L' := [_, _, _, _, _, _, _]) rfl ?_
          refine s_goto (tgt := 250) dL_text_385 (by decide) ?_
          refine s_fg (L' := [_, _, _, _, _, (9, 0), (9, 0)]) ⟨Or.inr rfl, Or.inr rfl, Or.inr rfl, Or.inr rfl, Or.inr rfl, Or.inl rfl, Or.inl rfl, trivial⟩ ?_
          exact ih (k + 1) (by omega) (by omega) (ti_le I302_7 (by omega) (by omega)) (rt_give R (by omega) (by omega) (by omega) qa qb k0 (by omega) hk) (by omega) (by omega) (by omega) (by omega)
        · exact absurd c309 (by omega)
set_option maxRecDepth 100000 in
set_option maxHeartbeats 4000000 in
theorem t_217 (hd : 7 ≤ d) (K : TE_ h0 Q) {u : UT} {j : Nat} (I : TI_ h0 1 110 bc bs h u) (R : RT_ j u (VV_ P t 0 0)) (hj : j ≤ 9) (P0 : 2 ≤ P) (P1 : P ≤ 5) (t0 : 1 ≤ t) (t1 : t ≤ 3) : S_ ML_text d bc bs Q 217 [(2, 197), (2, 198), (0, P), (0, t), (9, 0), (9, 0), (9, 0)] [] nM h := by
  refine s_aload_n dL_text_217 rfl ?_
  refine s_iconst dL_text_218 ?_
  refine x_of dL_text_219 (by omega) (by omega) (by omega) I (Nat.le_of_ble_eq_true rfl) (fun r0 _ r0a r0b Id1 => ?_)
  refine s_if_ne (tgt := 247) dL_text_222 (by decide) ⟨by omega, by omega⟩ (fun c222 => ?_) (fun c222 => ?_)
  · refine s_iconst dL_text_247 ?_
    refine s_istore dL_text_248 (by decide) rfl (L' := [_, _, _, _, _, _, _]) rfl ?_
    exact l_250 hd K P0 P1 t0 t1 t.toNat 0 (by omega) (by omega) (ti_le Id1 (by omega) (by omega)) R (by omega) (by omega) (by omega) (by omega)
  · refine s_aload_n dL_text_225 rfl ?_
    refine s_ldcS (j := 8) dL_text_226 (by decide) rfl rfl (z := 1032) rfl ?_
    refine x_aps (j := 32) (l := 5) (by decide) rfl dL_text_228 (by omega) Id1 (by decide +kernel) (by omega) (Nat.le_of_ble_eq_true rfl) (fun _ _ _ I228_2 => ?_)
    refine s_aload_n dL_text_231 rfl ?_
    refine s_sipush dL_text_232 (by decide) ?_
    refine x_of dL_text_235 (by omega) (by omega) (by omega) I228_2 (Nat.le_of_ble_eq_true rfl) (fun x _ xa xb I228_2d3 => ?_)
    refine x_apn dL_text_238 (by omega) I228_2d3 (by omega) (by omega) (by omega) (Nat.le_of_ble_eq_true rfl) (fun _ _ _ I238_4 => ?_)
    refine s_ldcS (j := 1) dL_text_241 (by decide) rfl rfl (z := 1025) rfl ?_
    refine x_aps (j := 25) (l := 1) (by decide) rfl dL_text_243 (by omega) I238_4 (by decide +kernel) (by omega) (Nat.le_of_ble_eq_true rfl) (fun _ _ _ I243_5 => ?_)
    refine s_pop dL_text_246 rfl ?_
    refine s_iconst dL_text_247 ?_
    refine s_istore dL_text_248 (by decide) rfl (L' := [_, _, _, _, _, _, _]) rfl ?_
    exact l_250 hd K P0 P1 t0 t1 t.toNat 0 (by omega) (by omega) (ti_le I243_5 (by omega) (by omega)) (rt_debt R xa (by omega)) (by omega) (by omega) (by omega) (by omega)
set_option maxRecDepth 100000 in
set_option maxHeartbeats 4000000 in
theorem t_195 (hd : 7 ≤ d) (K : TE_ h0 Q) {u : UT} {j : Nat} (I : TI_ h0 1 101 bc bs h u) (R : RT_ j u (VV_ P t 0 0)) (hj : j ≤ 8) (P0 : 2 ≤ P) (P1 : P ≤ 5) (t0 : 1 ≤ t) (t1 : t ≤ 3) : S_ ML_text d bc bs Q 195 [(2, 197), (2, 198), (0, P), (0, t), (9, 0), (9, 0), (9, 0)] [] nM h := by
  refine s_aload_n dL_text_195 rfl ?_
  refine s_ldcS (j := 7) dL_text_196 (by decide) rfl rfl (z := 1031) rfl ?_
  refine x_aps (j := 31) (l := 5) (by decide) rfl dL_text_198 (by omega) I (by decide +kernel) (by omega) (Nat.le_of_ble_eq_true rfl) (fun _ _ _ I198_1 => ?_)
  refine s_aload_n dL_text_201 rfl ?_
  refine s_sipush dL_text_202 (by decide) ?_
  refine x_of dL_text_205 (by omega) (by omega) (by omega) I198_1 (Nat.le_of_ble_eq_true rfl) (fun x _ xa xb I198_1d2 => ?_)
  refine x_apn dL_text_208 (by omega) I198_1d2 (by omega) (by omega) (by omega) (Nat.le_of_ble_eq_true rfl) (fun _ _ _ I208_3 => ?_)
  refine s_ldcS (j := 1) dL_text_211 (by decide) rfl rfl (z := 1025) rfl ?_
  refine x_aps (j := 25) (l := 1) (by decide) rfl dL_text_213 (by omega) I208_3 (by decide +kernel) (by omega) (Nat.le_of_ble_eq_true rfl) (fun _ _ _ I213_4 => ?_)
  refine s_pop dL_text_216 rfl ?_
  exact t_217 hd K (ti_le I213_4 (by omega) (by omega)) (rt_cash R xa (by omega)) (by omega) P0 P1 t0 t1
set_option maxRecDepth 100000 in
set_option maxHeartbeats 4000000 in
theorem l_145 (hd : 7 ≤ d) (K : TE_ h0 Q) (P0 : 2 ≤ P) (P1 : P ≤ 5) (t0 : 1 ≤ t) (t1 : t ≤ 3) : ∀ (m : Nat) {bc bs : Nat} {h : PH} {u : UT} {j : Nat} (k : Int) (k0 : 0 ≤ k) (km : k + m = t) (I : TI_ h0 1 (65 + 12 * k) bc bs h u) (R : RT_ j u (VV_ P k 0 0)) (hj : j ≤ 5 + k), S_ ML_text d bc bs Q 145 [(2, 197), (2, 198), (0, P), (0, t), (0, k), (9, 0), (9, 0)] [] nM h := by
  intro m
  induction m with
  | zero =>
    intro bc bs h u j k k0 km I R hj
    refine s_iload dL_text_145 rfl ?_
    refine s_iload_n dL_text_147 rfl ?_
    refine s_icmp_ge (tgt := 195) dL_text_148 (by decide) ⟨by omega, by omega⟩ ⟨by omega, by omega⟩ (fun c148 => ?_) (fun c148 => ?_)
    · refine s_fg (L' := [_, _, _, _, (9, 0), (9, 0), (9, 0)]) ⟨Or.inr rfl, Or.inr rfl, Or.inr rfl, Or.inr rfl, Or.inl rfl, Or.inl rfl, Or.inl rfl, trivial⟩ ?_
      have ek : k = t := by omega
      subst ek
      exact t_195 hd K (ti_le I (by omega) (by omega)) R (by omega) P0 P1 t0 t1
    · exact absurd c148 (by omega)
  | succ m ih =>
    intro bc bs h u j k k0 km I R hj
    refine s_iload dL_text_145 rfl ?_
    refine s_iload_n dL_text_147 rfl ?_
    refine s_icmp_ge (tgt := 195) dL_text_148 (by decide) ⟨by omega, by omega⟩ ⟨by omega, by omega⟩ (fun c148 => ?_) (fun c148 => ?_)
    · exact absurd c148 (by omega)
    · refine s_aload_n dL_text_151 rfl ?_
      refine s_ldcS (j := 5) dL_text_152 (by decide) rfl rfl (z := 1029) rfl ?_
      refine x_aps (j := 29) (l := 6) (by decide) rfl dL_text_154 (by omega) I (by decide +kernel) (by omega) (Nat.le_of_ble_eq_true rfl) (fun _ _ _ I154_1 => ?_)
      refine s_bipush dL_text_157 (by decide) ?_
      refine s_iload dL_text_159 rfl ?_
      refine s_iadd dL_text_161 ?_
      refine s_i2c dL_text_162 ?_
      rw [Int.emod_eq_of_lt (a := (116 + k)) (by omega) (by omega)]
      refine x_apc dL_text_163 (by omega) I154_1 (by omega) (by omega) (by omega) (Nat.le_of_ble_eq_true rfl) (fun _ _ _ I163_2 => ?_)
      refine s_ldcS (j := 6) dL_text_166 (by decide) rfl rfl (z := 1030) rfl ?_
      refine x_aps (j := 30) (l := 1) (by decide) rfl dL_text_168 (by omega) I163_2 (by decide +kernel) (by omega) (Nat.le_of_ble_eq_true rfl) (fun _ _ _ I168_3 => ?_)
      refine s_iconst dL_text_171 ?_
      refine s_aload_n dL_text_172 rfl ?_
      refine s_sipush dL_text_173 (by decide) ?_
      refine x_of dL_text_176 (by omega) (by omega) (by omega) I168_3 (Nat.le_of_ble_eq_true rfl) (fun x _ xa xb I168_3d4 => ?_)
      refine s_iadd dL_text_179 ?_
      refine x_apn dL_text_180 (by omega) I168_3d4 (by omega) (by omega) (by omega) (Nat.le_of_ble_eq_true rfl) (fun _ _ _ I180_5 => ?_)
      refine s_ldcS (j := 1) dL_text_183 (by decide) rfl rfl (z := 1025) rfl ?_
      refine x_aps (j := 25) (l := 1) (by decide) rfl dL_text_185 (by omega) I180_5 (by decide +kernel) (by omega) (Nat.le_of_ble_eq_true rfl) (fun _ _ _ I185_6 => ?_)
      refine s_pop dL_text_188 rfl ?_
      refine s_iinc dL_text_189 rfl (by decide) rfl (L' := [_, _, _, _, _, _, _]) rfl ?_
      refine s_goto (tgt := 145) dL_text_192 (by decide) ?_
      exact ih (k + 1) (by omega) (by omega) (ti_le I185_6 (by omega) (by omega)) (rt_thing R (by omega) k0 (by omega) (by omega) (by omega)) (by omega)
set_option maxRecDepth 100000 in
set_option maxHeartbeats 4000000 in
theorem t_134 (hd : 7 ≤ d) (K : TE_ h0 Q) {u : UT} {j : Nat} (I : TI_ h0 1 65 bc bs h u) (R : RT_ j u (VV_ P 0 0 0)) (hj : j ≤ 5) (P0 : 2 ≤ P) (P1 : P ≤ 5) : S_ ML_text d bc bs Q 134 [(2, 197), (2, 198), (0, P), (9, 0), (9, 0), (9, 0), (9, 0)] [] nM h := by
  refine s_iconst dL_text_134 ?_
  refine s_aload_n dL_text_135 rfl ?_
  refine s_iconst dL_text_136 ?_
  refine x_of dL_text_137 (by omega) (by omega) (by omega) I (Nat.le_of_ble_eq_true rfl) (fun x _ xa xb Id1 => ?_)
  refine s_iadd dL_text_140 ?_
  refine s_istore_n dL_text_141 (by decide) rfl (L' := [_, _, _, _, _, _, _]) rfl ?_
  refine s_iconst dL_text_142 ?_
  refine s_istore dL_text_143 (by decide) rfl (L' := [_, _, _, _, _, _, _]) rfl ?_
  exact l_145 hd K P0 P1 (by omega) (by omega) (1 + x).toNat 0 (by omega) (by omega) (ti_le Id1 (by omega) (by omega)) R (by omega)
set_option maxRecDepth 100000 in
set_option maxHeartbeats 4000000 in
theorem l_18 (hd : 7 ≤ d) (K : TE_ h0 Q) (P0 : 2 ≤ P) (P1 : P ≤ 5) : ∀ (m : Nat) {bc bs : Nat} {h : PH} {u : UT} {j : Nat} (k : Int) (k0 : 0 ≤ k) (km : k + m = P) (I : TI_ h0 k (13 * k) bc bs h u) (R : RT_ j u (VV_ k 0 0 0)) (hj : j ≤ k), S_ ML_text d bc bs Q 18 [(2, 197), (2, 198), (0, P), (0, k), (9, 0), (9, 0), (9, 0)] [] nM h := by
  intro m
  induction m with
  | zero =>
    intro bc bs h u j k k0 km I R hj
    refine s_iload_n dL_text_18 rfl ?_
    refine s_iload_n dL_text_19 rfl ?_
    refine s_icmp_ge (tgt := 134) dL_text_20 (by decide) ⟨by omega, by omega⟩ ⟨by omega, by omega⟩ (fun c20 => ?_) (fun c20 => ?_)
    · refine s_fg (L' := [_, _, _, (9, 0), (9, 0), (9, 0), (9, 0)]) ⟨Or.inr rfl, Or.inr rfl, Or.inr rfl, Or.inl rfl, Or.inl rfl, Or.inl rfl, Or.inl rfl, trivial⟩ ?_
      have ek : k = P := by omega
      subst ek
      exact t_134 hd K (ti_le I (by omega) (by omega)) R (by omega) P0 P1
    · exact absurd c20 (by omega)
  | succ m ih =>
    intro bc bs h u j k k0 km I R hj
    refine s_iload_n dL_text_18 rfl ?_
    refine s_iload_n dL_text_19 rfl ?_
    refine s_icmp_ge (tgt := 134) dL_text_20 (by decide) ⟨by omega, by omega⟩ ⟨by omega, by omega⟩ (fun c20 => ?_) (fun c20 => ?_)
    · exact absurd c20 (by omega)
    · refine s_aload_n dL_text_23 rfl ?_
      refine s_iconst dL_text_24 ?_
      refine x_of dL_text_25 (by omega) (by omega) (by omega) I (Nat.le_of_ble_eq_true rfl) (fun w _ wa wb Id1 => ?_)
      refine s_istore dL_text_28 (by decide) rfl (L' := [_, _, _, _, _, _, _]) rfl ?_
      refine s_iload dL_text_30 rfl ?_
      refine s_if_ne (tgt := 58) dL_text_32 (by decide) ⟨by omega, by omega⟩ (fun c32 => ?_) (fun c32 => ?_)
      · refine s_iload dL_text_58 rfl ?_
        refine s_iconst dL_text_60 ?_
        refine s_icmp_ge (tgt := 108) dL_text_61 (by decide) ⟨by omega, by omega⟩ ⟨by omega, by omega⟩ (fun c61 => ?_) (fun c61 => ?_)
        · refine s_aload_n dL_text_108 rfl ?_
          refine s_ldcS (j := 4) dL_text_109 (by decide) rfl rfl (z := 1028) rfl ?_
          refine x_aps (j := 28) (l := 6) (by decide) rfl dL_text_111 (by omega) Id1 (by decide +kernel) (by omega) (Nat.le_of_ble_eq_true rfl) (fun _ _ _ I111_2 => ?_)
          refine s_bipush dL_text_114 (by decide) ?_
          refine s_iload_n dL_text_116 rfl ?_
          refine s_iadd dL_text_117 ?_
          refine s_i2c dL_text_118 ?_
          rw [Int.emod_eq_of_lt (a := (97 + k)) (by omega) (by omega)]
          refine x_apc dL_text_119 (by omega) I111_2 (by omega) (by omega) (by omega) (Nat.le_of_ble_eq_true rfl) (fun _ _ _ I119_3 => ?_)
          refine s_ldcS (j := 1) dL_text_122 (by decide) rfl rfl (z := 1025) rfl ?_
          refine x_aps (j := 25) (l := 1) (by decide) rfl dL_text_124 (by omega) I119_3 (by decide +kernel) (by omega) (Nat.le_of_ble_eq_true rfl) (fun _ _ _ I124_4 => ?_)
          refine s_pop dL_text_127 rfl ?_
          refine s_iinc dL_text_128 rfl (by decide) rfl (L' := [_, _, _, _, _, _, _]) rfl ?_
          refine s_goto (tgt := 18) dL_text_131 (by decide) ?_
          refine s_fg (L' := [_, _, _, _, (9, 0), (9, 0), (9, 0)]) ⟨Or.inr rfl, Or.inr rfl, Or.inr rfl, Or.inr rfl, Or.inl rfl, Or.inl rfl, Or.inl rfl, trivial⟩ ?_
          exact ih (k + 1) (by omega) (by omega) (ti_le I124_4 (by omega) (by omega)) (rt_child R k0 (by omega) (by omega)) (by omega)
        · refine s_iload_n dL_text_64 rfl ?_
          refine s_if_le (tgt := 108) dL_text_65 (by decide) ⟨by omega, by omega⟩ (fun c65 => ?_) (fun c65 => ?_)
          · refine s_aload_n dL_text_108 rfl ?_
            refine s_ldcS (j := 4) dL_text_109 (by decide) rfl rfl (z := 1028) rfl ?_
            refine x_aps (j := 28) (l := 6) (by decide) rfl dL_text_111 (by omega) Id1 (by decide +kernel) (by omega) (Nat.le_of_ble_eq_true rfl) (fun _ _ _ I111_2 => ?_)
            refine s_bipush dL_text_114 (by decide) ?_
            refine s_iload_n dL_text_116 rfl ?_
            refine s_iadd dL_text_117 ?_
            refine s_i2c dL_text_118 ?_
            rw [Int.emod_eq_of_lt (a := (97 + k)) (by omega) (by omega)]
            refine x_apc dL_text_119 (by omega) I111_2 (by omega) (by omega) (by omega) (Nat.le_of_ble_eq_true rfl) (fun _ _ _ I119_3 => ?_)
            refine s_ldcS (j := 1) dL_text_122 (by decide) rfl rfl (z := 1025) rfl ?_
            refine x_aps (j := 25) (l := 1) (by decide) rfl dL_text_124 (by omega) I119_3 (by decide +kernel) (by omega) (Nat.le_of_ble_eq_true rfl) (fun _ _ _ I124_4 => ?_)
            refine s_pop dL_text_127 rfl ?_
            refine s_iinc dL_text_128 rfl (by decide) rfl (L' := [_, _, _, _, _, _, _]) rfl ?_
            refine s_goto (tgt := 18) dL_text_131 (by decide) ?_
            refine s_fg (L' := [_, _, _, _, (9, 0), (9, 0), (9, 0)]) ⟨Or.inr rfl, Or.inr rfl, Or.inr rfl, Or.inr rfl, Or.inl rfl, Or.inl rfl, Or.inl rfl, trivial⟩ ?_
            exact ih (k + 1) (by omega) (by omega) (ti_le I124_4 (by omega) (by omega)) (rt_child R k0 (by omega) (by omega)) (by omega)
          · refine s_aload_n dL_text_68 rfl ?_
            refine s_ldcS (j := 2) dL_text_69 (by decide) rfl rfl (z := 1026) rfl ?_
            refine x_aps (j := 26) (l := 6) (by decide) rfl dL_text_71 (by omega) Id1 (by decide +kernel) (by omega) (Nat.le_of_ble_eq_true rfl) (fun _ _ _ I71_2 => ?_)
            refine s_bipush dL_text_74 (by decide) ?_
            refine s_iload_n dL_text_76 rfl ?_
            refine s_iadd dL_text_77 ?_
            refine s_i2c dL_text_78 ?_
            rw [Int.emod_eq_of_lt (a := (97 + k)) (by omega) (by omega)]
            refine x_apc dL_text_79 (by omega) I71_2 (by omega) (by omega) (by omega) (Nat.le_of_ble_eq_true rfl) (fun _ _ _ I79_3 => ?_)
            refine s_ldcS (j := 3) dL_text_82 (by decide) rfl rfl (z := 1027) rfl ?_
            refine x_aps (j := 27) (l := 4) (by decide) rfl dL_text_84 (by omega) I79_3 (by decide +kernel) (by omega) (Nat.le_of_ble_eq_true rfl) (fun _ _ _ I84_4 => ?_)
            refine s_bipush dL_text_87 (by decide) ?_
            refine s_aload_n dL_text_89 rfl ?_
            refine s_iload_n dL_text_90 rfl ?_
            refine x_of dL_text_91 (by omega) (by omega) (by omega) I84_4 (Nat.le_of_ble_eq_true rfl) (fun q _ qa qb I84_4d5 => ?_)
            refine s_iadd dL_text_94 ?_
            refine s_i2c dL_text_95 ?_
            rw [Int.emod_eq_of_lt (a := (97 + q)) (by omega) (by omega)]
            refine x_apc dL_text_96 (by omega) I84_4d5 (by omega) (by omega) (by omega) (Nat.le_of_ble_eq_true rfl) (fun _ _ _ I96_6 => ?_)
            refine s_ldcS (j := 1) dL_text_99 (by decide) rfl rfl (z := 1025) rfl ?_
            refine x_aps (j := 25) (l := 1) (by decide) rfl dL_text_101 (by omega) I96_6 (by decide +kernel) (by omega) (Nat.le_of_ble_eq_true rfl) (fun _ _ _ I101_7 => ?_)
            refine s_pop dL_text_104 rfl ?_
            refine s_goto (tgt := 128) dL_text_105 (by decide) ?_
            refine s_iinc dL_text_128 rfl (by decide) rfl (L' := [_, _, _, _, _, _, _]) rfl ?_
            refine s_goto (tgt := 18) dL_text_131 (by decide) ?_
            refine s_fg (L' := [_, _, _, _, (9, 0), (9, 0), (9, 0)]) ⟨Or.inr rfl, Or.inr rfl, Or.inr rfl, Or.inr rfl, Or.inl rfl, Or.inl rfl, Or.inl rfl, trivial⟩ ?_
            exact ih (k + 1) (by omega) (by omega) (ti_le I101_7 (by omega) (by omega)) (rt_issue R k0 (by omega) (by omega) qa qb) (by omega)
      · refine s_aload_n dL_text_35 rfl ?_
        refine s_ldcS (j := 0) dL_text_36 (by decide) rfl rfl (z := 1024) rfl ?_
        refine x_aps (j := 24) (l := 7) (by decide) rfl dL_text_38 (by omega) Id1 (by decide +kernel) (by omega) (Nat.le_of_ble_eq_true rfl) (fun _ _ _ I38_2 => ?_)
        refine s_bipush dL_text_41 (by decide) ?_
        refine s_iload_n dL_text_43 rfl ?_
        refine s_iadd dL_text_44 ?_
        refine s_i2c dL_text_45 ?_
        rw [Int.emod_eq_of_lt (a := (97 + k)) (by omega) (by omega)]
        refine x_apc dL_text_46 (by omega) I38_2 (by omega) (by omega) (by omega) (Nat.le_of_ble_eq_true rfl) (fun _ _ _ I46_3 => ?_)
        refine s_ldcS (j := 1) dL_text_49 (by decide) rfl rfl (z := 1025) rfl ?_
        refine x_aps (j := 25) (l := 1) (by decide) rfl dL_text_51 (by omega) I46_3 (by decide +kernel) (by omega) (Nat.le_of_ble_eq_true rfl) (fun _ _ _ I51_4 => ?_)
        refine s_pop dL_text_54 rfl ?_
        refine s_goto (tgt := 128) dL_text_55 (by decide) ?_
        refine s_iinc dL_text_128 rfl (by decide) rfl (L' := [_, _, _, _, _, _, _]) rfl ?_
        refine s_goto (tgt := 18) dL_text_131 (by decide) ?_
        refine s_fg (L' := [_, _, _, _, (9, 0), (9, 0), (9, 0)]) ⟨Or.inr rfl, Or.inr rfl, Or.inr rfl, Or.inr rfl, Or.inl rfl, Or.inl rfl, Or.inl rfl, trivial⟩ ?_
        exact ih (k + 1) (by omega) (by omega) (ti_le I51_4 (by omega) (by omega)) (rt_friend R k0 (by omega) (by omega)) (by omega)
set_option maxRecDepth 100000 in
set_option maxHeartbeats 4000000 in
theorem c_L_text (hd : 7 ≤ d) (K : TE_ h0 Q) (hB : HB_ h0) (hG : G h0) (hv : VV_ 0 0 0 0 yz_) (hbc : 1000 ≤ bc) (hbs : 3100 ≤ bs) : Cl_ yL_text ML_text d bc bs [(2, 197)] 198 h0 Q := by
  refine s_enter pn_L rfl (Nat.le_of_ble_eq_true rfl) (L := [(2, _), (9, 0), (9, 0), (9, 0), (9, 0), (9, 0), (9, 0)]) rfl ?_
  refine s_newSB (by omega) nh_0 hB ⟨by omega, by omega⟩ rfl rfl (Nat.le_of_ble_eq_true rfl) ?_
  have I : TI_ h0 0 0 (bc - 2) (bs - 20) h0 (0, fun _ => 0) := by
    obtain ⟨b1, b2, b3, b4⟩ := hB
    refine ⟨⟨hG, ⟨⟨by omega, by omega⟩, ⟨by omega, by omega⟩, fun k k0 k1 => ?_⟩, Or.inl b3, b2, fun k k0 k1 => absurd (show k < 0 from k1) (by omega)⟩, ⟨by omega, by omega⟩, fun _ _ _ => rfl, Int.le_refl _, Int.le_refl _, fun k k0 k1 => absurd (show k < 0 from k1) (by omega)⟩
    have e := b4 k.toNat
    rw [show ((k.toNat : Nat) : Int) = k by omega] at e
    rw [e]
    decide
  refine s_astore_n dL_text_7 (by decide) rfl (L' := [_, _, _, _, _, _, _]) rfl ?_
  refine s_iconst dL_text_8 ?_
  refine s_aload_n dL_text_9 rfl ?_
  refine s_iconst dL_text_10 ?_
  refine x_of dL_text_11 (by omega) (by omega) (by omega) I (Nat.le_of_ble_eq_true rfl) (fun x _ xa xb Id1 => ?_)
  refine s_iadd dL_text_14 ?_
  refine s_istore_n dL_text_15 (by decide) rfl (L' := [_, _, _, _, _, _, _]) rfl ?_
  refine s_iconst dL_text_16 ?_
  refine s_istore_n dL_text_17 (by decide) rfl (L' := [_, _, _, _, _, _, _]) rfl ?_
  exact l_18 hd K (by omega) (by omega) (2 + x).toNat 0 (by omega) (by omega) (ti_le Id1 (by omega) (by omega)) (rt_0 hv) (by omega)
end TXT
