/-! the reference reads: words taken, numbers, ends, names found -/
/-- all is right so far, it reads from a on (blanks ahead may be skipped) -/
def AW_ (h h1 : PH) : Prop := ∀ x y : Int, ¬ (x = 196 ∧ 16 ≤ y ∧ y ≤ 18) → h1 x y = h x y
theorem AW_.tr {h h1 h2 : PH} (a : AW_ h h1) (b : AW_ h1 h2) : AW_ h h2 := fun x y c => (b x y c).trans (a x y c)
theorem at_aw {h h1 : PH} (f : AT_ h h1) : AW_ h h1 := fun x y c => f x y (by omega)
def OK9 (n : Int) (T : Int → Int) (h0 : PH) (a : Int) (h : PH) : Prop := RN_ n T h ∧ AW_ h0 h ∧ h 196 17 = -1 ∧ (h 196 16 = a ∨ h 196 16 = nb_ T n a) ∧ a ≤ n
/-- it is wrong at f -/
def WR9 (n : Int) (T : Int → Int) (h0 : PH) (f : Int) (h : PH) : Prop := RN_ n T h ∧ AW_ h0 h ∧ h 196 17 = f ∧ 0 ≤ f ∧ f ≤ n
theorem ok_nb {n : Int} {T : Int → Int} {h0 h : PH} {a : Int} (S : OK9 n T h0 a h) : nb_ T n (h 196 16) = nb_ T n a := by
  rcases S.2.2.2.1 with e | e
  · rw [e]
  · rw [e, nb_nb S.2.2.2.2]
theorem ok_wl {n : Int} {T : Int → Int} {h0 h : PH} {a : Int} (S : OK9 n T h0 a h) : wl__ T n (h 196 16) = wl__ T n a := by
  unfold wl__ wn_
  rw [ok_nb S]
theorem ok_go {n : Int} {T : Int → Int} {h0 h h1 : PH} {a b : Int} (S : OK9 n T h0 a h) (R : RN_ n T h1) (f : AW_ h h1) (e : h1 196 17 = -1) (eb : h1 196 16 = b) : OK9 n T h0 b h1 :=
  ⟨R, S.2.1.tr f, e, Or.inl eb, by have := R.2.2.1; omega⟩
theorem ok_at {n : Int} {T : Int → Int} {h0 h h1 : PH} {a : Int} (S : OK9 n T h0 a h) (R : RN_ n T h1) (f : AT_ h h1) (eb : h1 196 16 = nb_ T n (h 196 16)) : OK9 n T h0 a h1 :=
  ⟨R, S.2.1.tr (at_aw f), (f _ _ (by omega)).trans S.2.2.1, Or.inr (eb.trans (ok_nb S)), S.2.2.2.2⟩
theorem ok_0 {n : Int} {T : Int → Int} {h0 h : PH} {a : Int} (S : OK9 n T h0 a h) : 0 ≤ h 196 16 ∧ h 196 16 ≤ n ∧ n ≤ 400 ∧ G h := ⟨S.1.2.2.1.1, S.1.2.2.1.2, S.1.2.2.2.1, S.1.1⟩
theorem nb_0 {n : Int} {T : Int → Int} {h0 h : PH} {a : Int} (S : OK9 n T h0 a h) : 0 ≤ nb_ T n a ∧ nb_ T n a ≤ wn_ T n a ∧ wn_ T n a ≤ n ∧ nb_ T n a ≤ dn_ T n a ∧ dn_ T n a ≤ n := by
  have b := nb_bd (T := T) S.1.2.2.1.2
  rw [ok_nb S] at b
  have c := S.1.2.2.1
  have w := we_bd (T := T) b.2
  have e := de_bd (T := T) b.2
  unfold wn_ dn_
  omega
theorem wr_at {n : Int} {T : Int → Int} {h0 h h1 : PH} {f : Int} (S : WR9 n T h0 f h) (R : RN_ n T h1) (g : AT_ h h1) : WR9 n T h0 f h1 :=
  ⟨R, S.2.1.tr (at_aw g), (g _ _ (by omega)).trans S.2.2.1, S.2.2.2⟩
theorem wr_of {n : Int} {T : Int → Int} {h0 h h1 : PH} {a f : Int} (S : OK9 n T h0 a h) (g : G h1) (fr : AW_ h h1) (fa : h1 196 16 = h 196 16) (e : h1 196 17 = f) (f0 : 0 ≤ f) (f1 : f ≤ n) : WR9 n T h0 f h1 := by
  obtain ⟨R, A, -, -, -⟩ := S
  exact ⟨⟨g, (fr _ _ (by omega)).trans R.2.1, by rw [fa]; exact R.2.2.1, R.2.2.2.1, fun k p q => (fr _ _ (by omega)).trans (R.2.2.2.2 k p q)⟩, A.tr fr, e, f0, f1⟩
theorem wr_wr {n : Int} {T : Int → Int} {h0 h h1 : PH} {f : Int} (S : WR9 n T h0 f h) (g : G h1) (fr : ∀ x y : Int, ¬ (x = 196 ∧ y = 17) → h1 x y = h x y) (e : h1 196 17 = h 196 17) : WR9 n T h0 f h1 := by
  obtain ⟨R, A, c, b0, b1⟩ := S
  exact ⟨⟨g, (fr _ _ (by omega)).trans R.2.1, by rw [fr _ _ (by omega)]; exact R.2.2.1, R.2.2.2.1, fun k p q => (fr _ _ (by omega)).trans (R.2.2.2.2 k p q)⟩, A.tr (fun x y q => fr x y (by omega)), e.trans c, b0, b1⟩
section X9P
variable {d bc bs : Nat} {Q : PQ} {h h0 : PH} {n a f : Int} {T : Int → Int}
theorem k_isWord {j : Nat} (hj : j < 49) (hd : 5 ≤ d) (S : OK9 n T h0 a h) (k : ∀ h1 : PH, OK9 n T h0 a h1 → h1 196 16 = nb_ T n a → Q.1 (some (0, b01 (iw_ T (nb_ T n a) (wl__ T n a) j))) nN h1) : Cl_ yX9_isWord MX9_isWord d bc bs [(2, 196), (2, 1000 + j)] nN h Q := by
  refine c_X9_isWord hj hd S.1 S.2.2.1 (fun h1 R1 f1 e1 => ?_)
  rw [ok_nb S, ok_wl S]
  exact k h1 (ok_at S R1 f1 e1) (e1.trans (ok_nb S))
set_option maxRecDepth 100000 in
set_option maxHeartbeats 4000000 in
theorem c_X9_takesWord {j : Nat} (hj : j < 49) (hd : 6 ≤ d) (S : OK9 n T h0 a h) (k : (iw_ T (nb_ T n a) (wl__ T n a) j) → ∀ h1 : PH, OK9 n T h0 (wn_ T n a) h1 → h1 196 16 = wn_ T n a → Q.1 (some (0, 1)) nN h1) (k1 : ¬ (iw_ T (nb_ T n a) (wl__ T n a) j) → ∀ h1 : PH, OK9 n T h0 a h1 → h1 196 16 = nb_ T n a → Q.1 (some (0, 0)) nN h1) : Cl_ yX9_takesWord MX9_takesWord d bc bs [(2, 196), (2, 1000 + j)] nN h Q := by
  refine s_enter pn_X9 rfl (Nat.le_of_ble_eq_true rfl) (L := [(2, _), (2, _), (9, 0)]) rfl ?_
  have hG := S.1.1
  have ab := ok_0 S
  have nb0 := nb_0 S
  have ok := S.2.2.1
  have hl9 := (txs_ok j hj).1
  have wle : wl__ T n a = wn_ T n a - nb_ T n a := rfl
  refine s_aload_n dX9_takesWord_0 rfl ?_
  refine s_aload_n dX9_takesWord_1 rfl ?_
  refine s_callV (d' := d - 1) (bc' := 0) (bs' := 0) (as := [_]) dX9_takesWord_2 vf_X9_130 (dd_ (by omega) (by decide)) ⟨Nat.zero_le _, Nat.zero_le _⟩ rfl rfl (Nat.le_of_ble_eq_true rfl) kl_7 rfl io_196 ?_
  refine k_isWord hj (by omega) S (fun h1 S1 e1 => ?_)
  have hG1 := S1.1.1
  have hG := S1.1.1
  have ok := S1.2.2.1
  refine s_istore_n dX9_takesWord_5 (by decide) rfl (L' := [_, _, _]) rfl ?_
  refine s_aload_n dX9_takesWord_6 rfl ?_
  refine s_dup dX9_takesWord_7 rfl ?_
  refine s_geti dX9_takesWord_8 fl_X9_104 kl_7 (by decide) rfl io_196 (z := 16) rfl ?_
  rw [e1]
  refine s_iload_n dX9_takesWord_11 rfl ?_
  refine s_if_eq (tgt := 22) dX9_takesWord_12 (by decide) (by first | exact hG1.2 _ _ | exact hG.2 _ _ | exact b01_in _ | assumption | exact ⟨by omega, by omega⟩) (fun c1 => ?_) (fun c1 => ?_)
  · have cc := b01_0.mp c1--go
    refine s_iconst dX9_takesWord_22 ?_
    refine s_iadd dX9_takesWord_23 ?_
    refine s_putiG 16 dX9_takesWord_24 fl_X9_104 kl_7 (by decide) rfl rfl io_196 (z := 16) rfl (by decide +kernel) hG1 (by first | exact hG1.2 _ _ | exact hG.2 _ _ | exact b01_in _ | assumption | exact ⟨by omega, by omega⟩) (fun hG2 => ?_)
    refine s_iload_n dX9_takesWord_27 rfl ?_
    have e9 : hs_ h1 196 16 (nb_ T n a + 0) 196 16 = nb_ T n a := by rw [hs_eq]; omega
    have at9 : AT_ h1 (hs_ h1 196 16 (nb_ T n a + 0)) := fun x y c => hs_ne _ c
    refine s_zreturn dX9_takesWord_28 rfl (b01_or _) (q_val (b01_f (c := iw_ T (nb_ T n a) (wl__ T n a) j) cc).symm (k1 cc _ ⟨rn_at S1.1 hG2 at9 (by rw [e9]; omega), S1.2.1.tr (at_aw at9), (at9 _ _ (by omega)).trans ok, Or.inr e9, S1.2.2.2.2⟩ e9))
  · have cc := b01_n.mp c1
    have cl := cc.1--go
    refine s_aload_n dX9_takesWord_15 rfl ?_
    refine e_callK (d' := d - 1) (bc' := 0) (bs' := 0) (as := []) nh_0 (kx_st hj) dX9_takesWord_16 vf_X9_121 (dd_ (by omega) (by decide)) ⟨Nat.zero_le _, Nat.zero_le _⟩ rfl rfl (Nat.le_of_ble_eq_true rfl) rfl ?_
    refine c_J0_length_8abf5 hj (by omega) ?_
    refine s_goto (tgt := 23) dX9_takesWord_19 (by decide) ?_
    refine s_iadd dX9_takesWord_23 ?_
    refine s_putiG 16 dX9_takesWord_24 fl_X9_104 kl_7 (by decide) rfl rfl io_196 (z := 16) rfl (by decide +kernel) hG1 (by first | exact hG1.2 _ _ | exact hG.2 _ _ | exact b01_in _ | assumption | exact ⟨by omega, by omega⟩) (fun hG3 => ?_)
    refine s_iload_n dX9_takesWord_27 rfl ?_
    have e9 : hs_ h1 196 16 (nb_ T n a + ((txb_ j).length : Int)) 196 16 = wn_ T n a := by rw [hs_eq]; omega
    have at9 : AT_ h1 (hs_ h1 196 16 (nb_ T n a + ((txb_ j).length : Int))) := fun x y c => hs_ne _ c
    refine s_zreturn dX9_takesWord_28 rfl (b01_or _) (q_val (b01_t (c := iw_ T (nb_ T n a) (wl__ T n a) j) cc).symm (k cc _ (ok_go S1 (rn_at S1.1 hG3 at9 (by rw [e9]; omega)) (at_aw at9) ((at9 _ _ (by omega)).trans ok) e9) e9))
set_option maxRecDepth 100000 in
set_option maxHeartbeats 4000000 in
theorem kw_X9_takesWord {b : Int} (hd : 2 ≤ d) (S : WR9 n T h0 f h) (k : ∀ h1 : PH, WR9 n T h0 f h1 → Q.1 (some (0, 0)) nN h1) : Cl_ yX9_takesWord MX9_takesWord d bc bs [(2, 196), (2, b)] nN h Q := by
  refine s_enter pn_X9 rfl (Nat.le_of_ble_eq_true rfl) (L := [(2, _), (2, _), (9, 0)]) rfl ?_
  have hG := S.1.1
  have fb := S.2.2.2
  have ok : ¬ h 196 17 = -1 := by have := S.2.2.1; omega
  refine s_aload_n dX9_takesWord_0 rfl ?_
  refine s_aload_n dX9_takesWord_1 rfl ?_
  refine s_callV (d' := d - 1) (bc' := 0) (bs' := 0) (as := [_]) dX9_takesWord_2 vf_X9_130 (dd_ (by omega) (by decide)) ⟨Nat.zero_le _, Nat.zero_le _⟩ rfl rfl (Nat.le_of_ble_eq_true rfl) kl_7 rfl io_196 ?_
  refine cw_X9_isWord (by omega) hG ok ?_
  refine s_istore_n dX9_takesWord_5 (by decide) rfl (L' := [_, _, _]) rfl ?_
  refine s_aload_n dX9_takesWord_6 rfl ?_
  refine s_dup dX9_takesWord_7 rfl ?_
  refine s_geti dX9_takesWord_8 fl_X9_104 kl_7 (by decide) rfl io_196 (z := 16) rfl ?_
  have ab := S.1.2.2.1
  have n4 := S.1.2.2.2.1
  refine s_iload_n dX9_takesWord_11 rfl ?_
  refine s_if_eq (tgt := 22) dX9_takesWord_12 (by decide) (by first | exact hG.2 _ _ | exact b01_in _ | assumption | exact ⟨by omega, by omega⟩) (fun c1 => ?_) (fun c1 => ?_)
  · refine s_iconst dX9_takesWord_22 ?_
    refine s_iadd dX9_takesWord_23 ?_
    refine s_putiG 16 dX9_takesWord_24 fl_X9_104 kl_7 (by decide) rfl rfl io_196 (z := 16) rfl (by decide +kernel) hG (by first | exact hG.2 _ _ | exact b01_in _ | assumption | exact ⟨by omega, by omega⟩) (fun hG1 => ?_)
    refine s_iload_n dX9_takesWord_27 rfl ?_
    have e9 : hs_ h 196 16 (h 196 16 + 0) 196 16 = h 196 16 := by rw [hs_eq]; omega
    have at9 : AT_ h (hs_ h 196 16 (h 196 16 + 0)) := fun x y c => hs_ne _ c
    exact s_zreturn dX9_takesWord_28 rfl (Or.inl rfl) (k _ (wr_at S (rn_at S.1 hG1 at9 (by rw [e9]; exact S.1.2.2.1)) at9))
  · exact absurd rfl c1
set_option maxRecDepth 100000 in
set_option maxHeartbeats 4000000 in
theorem c_X9_must {j : Nat} (hj : j < 49) (hd : 7 ≤ d) (S : OK9 n T h0 a h) (k : (iw_ T (nb_ T n a) (wl__ T n a) j) → ∀ h1 : PH, OK9 n T h0 (wn_ T n a) h1 → h1 196 16 = wn_ T n a → Q.1 none nN h1) (k1 : ¬ (iw_ T (nb_ T n a) (wl__ T n a) j) → ∀ h1 : PH, WR9 n T h0 (nb_ T n a) h1 → Q.1 none nN h1) : Cl_ yX9_must MX9_must d bc bs [(2, 196), (2, 1000 + j)] nN h Q := by
  refine s_enter pn_X9 rfl (Nat.le_of_ble_eq_true rfl) (L := [(2, _), (2, _)]) rfl ?_
  have hG := S.1.1
  have ab := ok_0 S
  have nb0 := nb_0 S
  have ok := S.2.2.1
  refine s_aload_n dX9_must_0 rfl ?_
  refine s_aload_n dX9_must_1 rfl ?_
  refine s_callV (d' := d - 1) (bc' := 0) (bs' := 0) (as := [_]) dX9_must_2 vf_X9_134 (dd_ (by omega) (by decide)) ⟨Nat.zero_le _, Nat.zero_le _⟩ rfl rfl (Nat.le_of_ble_eq_true rfl) kl_7 rfl io_196 ?_
  refine c_X9_takesWord hj (by omega) S (fun cc h1 S1 e1 => ?_) (fun cc h1 S1 e1 => ?_)
  · have hG := S1.1.1
    have ok := S1.2.2.1
    refine s_if_ne (tgt := 16) dX9_must_5 (by decide) (by first | exact hG.2 _ _ | exact b01_in _ | assumption | exact ⟨by omega, by omega⟩) (fun c1 => ?_) (fun c1 => ?_)
    · exact s_return dX9_must_16 rfl (k cc h1 S1 e1)
    · exact absurd (show (1 : Int) = 0 from c1) (by decide)
  · have hG := S1.1.1
    have ok := S1.2.2.1
    refine s_if_ne (tgt := 16) dX9_must_5 (by decide) (by first | exact hG.2 _ _ | exact b01_in _ | assumption | exact ⟨by omega, by omega⟩) (fun c1 => ?_) (fun c1 => ?_)
    · exact absurd rfl c1
    · refine s_aload_n dX9_must_8 rfl ?_
      refine s_aload_n dX9_must_9 rfl ?_
      refine s_geti dX9_must_10 fl_X9_104 kl_7 (by decide) rfl io_196 (z := 16) rfl ?_
      rw [e1]
      refine s_callV (d' := d - 1) (bc' := 0) (bs' := 0) (as := [_]) dX9_must_13 vf_X9_137 (dd_ (by omega) (by decide)) ⟨Nat.zero_le _, Nat.zero_le _⟩ rfl rfl (Nat.le_of_ble_eq_true rfl) kl_7 rfl io_196 ?_
      refine c_X9_wrong hG (by first | exact hG.2 _ _ | exact ⟨by omega, by omega⟩) (fun hW gW fW eW => ?_)
      have hG1 := gW
      
      rw [if_pos ok] at eW
      exact s_return dX9_must_16 rfl (k1 cc hW (wr_of S1 gW (fun x y c => fW x y (by omega)) (fW _ _ (by omega)) eW (by omega) (by omega)))
set_option maxRecDepth 100000 in
set_option maxHeartbeats 4000000 in
theorem kw_X9_must {b : Int} (hd : 3 ≤ d) (S : WR9 n T h0 f h) (k : ∀ h1 : PH, WR9 n T h0 f h1 → Q.1 none nN h1) : Cl_ yX9_must MX9_must d bc bs [(2, 196), (2, b)] nN h Q := by
  refine s_enter pn_X9 rfl (Nat.le_of_ble_eq_true rfl) (L := [(2, _), (2, _)]) rfl ?_
  refine s_aload_n dX9_must_0 rfl ?_
  refine s_aload_n dX9_must_1 rfl ?_
  refine s_callV (d' := d - 1) (bc' := 0) (bs' := 0) (as := [_]) dX9_must_2 vf_X9_134 (dd_ (by omega) (by decide)) ⟨Nat.zero_le _, Nat.zero_le _⟩ rfl rfl (Nat.le_of_ble_eq_true rfl) kl_7 rfl io_196 ?_
  refine kw_X9_takesWord (by omega) S (fun h1 S1 => ?_)
  have hG1 := S1.1.1
  have ok : ¬ h1 196 17 = -1 := by have e := S1.2.2.1; have b := S1.2.2.2; omega
  refine s_if_ne (tgt := 16) dX9_must_5 (by decide) (by first | exact hG1.2 _ _ | exact hG.2 _ _ | exact b01_in _ | assumption | exact ⟨by omega, by omega⟩) (fun c1 => ?_) (fun c1 => ?_)
  · exact absurd rfl c1
  · refine s_aload_n dX9_must_8 rfl ?_
    refine s_aload_n dX9_must_9 rfl ?_
    refine s_geti dX9_must_10 fl_X9_104 kl_7 (by decide) rfl io_196 (z := 16) rfl ?_
    refine s_callV (d' := d - 1) (bc' := 0) (bs' := 0) (as := [_]) dX9_must_13 vf_X9_137 (dd_ (by omega) (by decide)) ⟨Nat.zero_le _, Nat.zero_le _⟩ rfl rfl (Nat.le_of_ble_eq_true rfl) kl_7 rfl io_196 ?_
    refine c_X9_wrong hG1 (by first | exact hG1.2 _ _ | exact ⟨by omega, by omega⟩) (fun hW gW fW eW => ?_)
    have hG2 := gW
    
    rw [if_neg ok] at eW
    exact s_return dX9_must_16 rfl (k hW (wr_wr S1 gW fW eW))
set_option maxRecDepth 100000 in
set_option maxHeartbeats 4000000 in
theorem lp_X9_number {lo hi s e V : Int} (n4 : n ≤ 400) (s0 : 0 ≤ s) (K : ∀ h : PH, RN_ n T h → AT_ h0 h → h 196 16 = e → S_ MX9_number d bc bs Q 109 [(2, 196), (0, lo), (0, hi), (0, s), (0, V)] [] nN h) : ∀ (m : Nat) (v : Int) (h : PH), (h 196 16 + m = n) → (s ≤ h 196 16) → (RN_ n T h) → (AT_ h0 h) → (de_ T n (h 196 16) = e) → (vl_ T s (e - h 196 16).toNat (h 196 16) v = V) → (vk_ (h 196 16 - s) v) → S_ MX9_number d bc bs Q 22 [(2, 196), (0, lo), (0, hi), (0, s), (0, v)] [] nN h := by
  intro m
  induction m with
  | zero =>
    intro v h am sa R fa he hv vk
    have hG := R.1
    have e15 := R.2.1
    have ab := R.2.2.1
    have te : h 196 16 < n → h (196 + 9) (h 196 16) = T (h 196 16) := fun c => R.2.2.2.2 _ ab.1 c
    refine s_aload_n dX9_number_22 rfl ?_
    refine s_geti dX9_number_23 fl_X9_104 kl_7 (by decide) rfl io_196 (z := 16) rfl ?_
    refine s_aload_n dX9_number_26 rfl ?_
    refine s_geti dX9_number_27 fl_X9_107 kl_7 (by decide) rfl io_196 (z := 15) rfl ?_
    refine s_icmp_ge (tgt := 109) dX9_number_30 (by decide) (by first | exact hG.2 _ _ | exact b01_in _ | assumption | exact ⟨by omega, by omega⟩) (by first | exact hG.2 _ _ | exact b01_in _ | assumption | exact ⟨by omega, by omega⟩) (fun c1 => ?_) (fun c1 => ?_)
    · have es : de_ T n (h 196 16) = h 196 16 := de_st (fun q => by have q2 := te q; omega)
      have ev : v = V := by rw [← hv, ← he, es, show (h 196 16 - h 196 16).toNat = 0 by omega, vl_]
      rw [ev]
      exact K h R fa (by rw [← he, es])
    · exact absurd c1 (by omega)
  | succ m ih =>
    intro v h am sa R fa he hv vk
    have hG := R.1
    have e15 := R.2.1
    have ab := R.2.2.1
    have te : h 196 16 < n → h (196 + 9) (h 196 16) = T (h 196 16) := fun c => R.2.2.2.2 _ ab.1 c
    refine s_aload_n dX9_number_22 rfl ?_
    refine s_geti dX9_number_23 fl_X9_104 kl_7 (by decide) rfl io_196 (z := 16) rfl ?_
    refine s_aload_n dX9_number_26 rfl ?_
    refine s_geti dX9_number_27 fl_X9_107 kl_7 (by decide) rfl io_196 (z := 15) rfl ?_
    refine s_icmp_ge (tgt := 109) dX9_number_30 (by decide) (by first | exact hG.2 _ _ | exact b01_in _ | assumption | exact ⟨by omega, by omega⟩) (by first | exact hG.2 _ _ | exact b01_in _ | assumption | exact ⟨by omega, by omega⟩) (fun c1 => ?_) (fun c1 => ?_)
    · exact absurd c1 (by omega)
    · refine s_aload_n dX9_number_33 rfl ?_
      refine s_getr dX9_number_34 fl_X9_35 kl_7 (by decide) rfl io_196 (z := 13) rfl (rf_7_13 hG.1 io_196) (rk_7_13 io_196).1 ?_
      refine s_aload_n dX9_number_37 rfl ?_
      refine s_geti dX9_number_38 fl_X9_104 kl_7 (by decide) rfl io_196 (z := 16) rfl ?_
      refine s_baload1 dX9_number_41 (rk_7_13 io_196) (by omega) (by omega) ?_
      have te1 := te (by omega)
      refine s_bipush dX9_number_42 (by decide) ?_
      refine s_icmp_lt (tgt := 109) dX9_number_44 (by decide) (by first | exact hG.2 _ _ | exact b01_in _ | assumption | exact ⟨by omega, by omega⟩) (by first | exact hG.2 _ _ | exact b01_in _ | assumption | exact ⟨by omega, by omega⟩) (fun c2 => ?_) (fun c2 => ?_)
      · have es : de_ T n (h 196 16) = h 196 16 := de_st (fun q => by have q2 := te q; omega)
        have ev : v = V := by rw [← hv, ← he, es, show (h 196 16 - h 196 16).toNat = 0 by omega, vl_]
        rw [ev]
        exact K h R fa (by rw [← he, es])
      · refine s_aload_n dX9_number_47 rfl ?_
        refine s_getr dX9_number_48 fl_X9_35 kl_7 (by decide) rfl io_196 (z := 13) rfl (rf_7_13 hG.1 io_196) (rk_7_13 io_196).1 ?_
        refine s_aload_n dX9_number_51 rfl ?_
        refine s_geti dX9_number_52 fl_X9_104 kl_7 (by decide) rfl io_196 (z := 16) rfl ?_
        refine s_baload1 dX9_number_55 (rk_7_13 io_196) (by omega) (by omega) ?_
        refine s_bipush dX9_number_56 (by decide) ?_
        refine s_icmp_gt (tgt := 109) dX9_number_58 (by decide) (by first | exact hG.2 _ _ | exact b01_in _ | assumption | exact ⟨by omega, by omega⟩) (by first | exact hG.2 _ _ | exact b01_in _ | assumption | exact ⟨by omega, by omega⟩) (fun c3 => ?_) (fun c3 => ?_)
        · have es : de_ T n (h 196 16) = h 196 16 := de_st (fun q => by have q2 := te q; omega)
          have ev : v = V := by rw [← hv, ← he, es, show (h 196 16 - h 196 16).toNat = 0 by omega, vl_]
          rw [ev]
          exact K h R fa (by rw [← he, es])
        · refine s_aload_n dX9_number_61 rfl ?_
          refine s_geti dX9_number_62 fl_X9_104 kl_7 (by decide) rfl io_196 (z := 16) rfl ?_
          refine s_iload_n dX9_number_65 rfl ?_
          refine s_isub dX9_number_66 ?_
          refine s_iconst dX9_number_67 ?_
          refine s_icmp_ge (tgt := 92) dX9_number_68 (by decide) (by first | exact hG.2 _ _ | exact b01_in _ | assumption | exact ⟨by omega, by omega⟩) (by first | exact hG.2 _ _ | exact b01_in _ | assumption | exact ⟨by omega, by omega⟩) (fun c4 => ?_) (fun c4 => ?_)
          · refine s_iload dX9_number_92 rfl ?_
            refine s_istore dX9_number_94 (by decide) rfl (L' := [_, _, _, _, _]) rfl ?_
            refine s_aload_n dX9_number_96 rfl ?_
            refine s_dup dX9_number_97 rfl ?_
            refine s_geti dX9_number_98 fl_X9_104 kl_7 (by decide) rfl io_196 (z := 16) rfl ?_
            refine s_iconst dX9_number_101 ?_
            refine s_iadd dX9_number_102 ?_
            refine s_putiG 16 dX9_number_103 fl_X9_104 kl_7 (by decide) rfl rfl io_196 (z := 16) rfl (by decide +kernel) hG (by first | exact hG.2 _ _ | exact b01_in _ | assumption | exact ⟨by omega, by omega⟩) (fun hG1 => ?_)
            refine s_goto (tgt := 22) dX9_number_106 (by decide) ?_
            have dup : de_ T n (h 196 16) = de_ T n (h 196 16 + 1) := de_up (by omega) ⟨by omega, by omega⟩
            have dbd := de_bd (T := T) (n := n) (a := h 196 16 + 1) (by omega)
            refine ih _ _ (by rw [hs_eq]; omega) (by rw [hs_eq]; omega) (rn_at R hG1 (fun x y c => hs_ne _ c) (by rw [hs_eq]; omega)) (fa.tr (fun x y c => hs_ne _ c)) (by rw [hs_eq, ← dup]; exact he) ?_ ?_
            · rw [hs_eq, ← hv, show (e - h 196 16).toNat = (e - (h 196 16 + 1)).toNat + 1 by omega, vl_]
              first | rw [if_pos (by omega), show 10 * v + T (h 196 16) - 48 = v * 10 + (T (h 196 16) - 48) by omega] | rw [if_neg (by omega)]
            · rw [hs_eq, show h 196 16 + 1 - s = h 196 16 - s + 1 by omega]
              first | (rw [show 10 * v + T (h 196 16) - 48 = v * 10 + (T (h 196 16) - 48) by omega]; exact vk_s vk (by omega) (by omega) (by omega) (by omega)) | exact vk_o vk (by omega)
          · refine s_bipush dX9_number_71 (by decide) ?_
            refine s_iload dX9_number_73 rfl ?_
            refine s_imul dX9_number_75 ?_
            refine s_aload_n dX9_number_76 rfl ?_
            refine s_getr dX9_number_77 fl_X9_35 kl_7 (by decide) rfl io_196 (z := 13) rfl (rf_7_13 hG.1 io_196) (rk_7_13 io_196).1 ?_
            refine s_aload_n dX9_number_80 rfl ?_
            refine s_geti dX9_number_81 fl_X9_104 kl_7 (by decide) rfl io_196 (z := 16) rfl ?_
            refine s_baload1 dX9_number_84 (rk_7_13 io_196) (by omega) (by omega) ?_
            refine s_iadd dX9_number_85 ?_
            rw [te1]
            refine s_bipush dX9_number_86 (by decide) ?_
            refine s_isub dX9_number_88 ?_
            refine s_goto (tgt := 94) dX9_number_89 (by decide) ?_
            refine s_istore dX9_number_94 (by decide) rfl (L' := [_, _, _, _, _]) rfl ?_
            refine s_aload_n dX9_number_96 rfl ?_
            refine s_dup dX9_number_97 rfl ?_
            refine s_geti dX9_number_98 fl_X9_104 kl_7 (by decide) rfl io_196 (z := 16) rfl ?_
            refine s_iconst dX9_number_101 ?_
            refine s_iadd dX9_number_102 ?_
            refine s_putiG 16 dX9_number_103 fl_X9_104 kl_7 (by decide) rfl rfl io_196 (z := 16) rfl (by decide +kernel) hG (by first | exact hG.2 _ _ | exact b01_in _ | assumption | exact ⟨by omega, by omega⟩) (fun hG2 => ?_)
            refine s_goto (tgt := 22) dX9_number_106 (by decide) ?_
            have dup : de_ T n (h 196 16) = de_ T n (h 196 16 + 1) := de_up (by omega) ⟨by omega, by omega⟩
            have dbd := de_bd (T := T) (n := n) (a := h 196 16 + 1) (by omega)
            refine ih _ _ (by rw [hs_eq]; omega) (by rw [hs_eq]; omega) (rn_at R hG2 (fun x y c => hs_ne _ c) (by rw [hs_eq]; omega)) (fa.tr (fun x y c => hs_ne _ c)) (by rw [hs_eq, ← dup]; exact he) ?_ ?_
            · rw [hs_eq, ← hv, show (e - h 196 16).toNat = (e - (h 196 16 + 1)).toNat + 1 by omega, vl_]
              first | rw [if_pos (by omega), show 10 * v + T (h 196 16) - 48 = v * 10 + (T (h 196 16) - 48) by omega] | rw [if_neg (by omega)]
            · rw [hs_eq, show h 196 16 + 1 - s = h 196 16 - s + 1 by omega]
              first | (rw [show 10 * v + T (h 196 16) - 48 = v * 10 + (T (h 196 16) - 48) by omega]; exact vk_s vk (by omega) (by omega) (by omega) (by omega)) | exact vk_o vk (by omega)
set_option maxRecDepth 100000 in
set_option maxHeartbeats 4000000 in
theorem c_X9_number {lo hi : Int} (hd : 3 ≤ d) (S : OK9 n T h0 a h) (hlo : inI lo) (hhi : inI hi) (k : okN T n a lo hi → ∀ h1 : PH, OK9 n T h0 (dn_ T n a) h1 → h1 196 16 = dn_ T n a → h1 196 18 = nb_ T n a → Q.1 (some (0, dv_ T n a)) nN h1) (k1 : ¬ okN T n a lo hi → ∀ (h1 : PH) (v : Int), WR9 n T h0 (nb_ T n a) h1 → inI v → Q.1 (some (0, v)) nN h1) : Cl_ yX9_number MX9_number d bc bs [(2, 196), (0, lo), (0, hi)] nN h Q := by
  refine s_enter pn_X9 rfl (Nat.le_of_ble_eq_true rfl) (L := [(2, _), (0, _), (0, _), (9, 0), (9, 0)]) rfl ?_
  have hG := S.1.1
  have ab := ok_0 S
  have nb0 := nb_0 S
  have ok := S.2.2.1
  refine s_aload_n dX9_number_0 rfl ?_
  refine s_callV (d' := d - 1) (bc' := 0) (bs' := 0) (as := []) dX9_number_1 vf_X9_114 (dd_ (by omega) (by decide)) ⟨Nat.zero_le _, Nat.zero_le _⟩ rfl rfl (Nat.le_of_ble_eq_true rfl) kl_7 rfl io_196 ?_
  refine c_X9_isWrong hG ?_
  refine s_if_eq (tgt := 9) dX9_number_4 (by decide) (by first | exact hG.2 _ _ | exact b01_in _ | assumption | exact ⟨by omega, by omega⟩) (fun c1 => ?_) (fun c1 => ?_)
  · have c1 := b01_0.mp c1
    refine s_aload_n dX9_number_9 rfl ?_
    refine s_callV (d' := d - 1) (bc' := 0) (bs' := 0) (as := []) dX9_number_10 vf_X9_110 (dd_ (by omega) (by decide)) ⟨Nat.zero_le _, Nat.zero_le _⟩ rfl rfl (Nat.le_of_ble_eq_true rfl) kl_7 rfl io_196 ?_
    refine c_X9_here S.1 (fun h1 R1 f1 e1 => ?_)
    have hG1 := R1.1
    have S1 := ok_at S R1 f1 e1
    have hG := hG1
    rw [ok_nb S] at e1
    refine s_pop dX9_number_13 rfl ?_
    refine s_aload_n dX9_number_14 rfl ?_
    refine s_geti dX9_number_15 fl_X9_104 kl_7 (by decide) rfl io_196 (z := 16) rfl ?_
    rw [e1]
    refine s_istore_n dX9_number_18 (by decide) rfl (L' := [_, _, _, _, _]) rfl ?_
    refine s_iconst dX9_number_19 ?_
    refine s_istore dX9_number_20 (by decide) rfl (L' := [_, _, _, _, _]) rfl ?_
    refine lp_X9_number (h0 := h1) (e := dn_ T n a) (V := dv_ T n a) ab.2.2.1 nb0.1 (fun h2 R2 f2 e2 => ?_) (n - h1 196 16).toNat 0 h1 (by omega) (by omega) R1 (AT_.rf h1) (by rw [e1]; rfl) (by rw [e1]; rfl) (by unfold vk_; omega)
    have hG := R2.1
    have S2 := ok_go S1 R2 (at_aw f2) ((f2 _ _ (by omega)).trans S1.2.2.1) e2
    have ok2 := S2.2.2.1
    have vb := nv_bd (T := T) (n := n) (s := nb_ T n a)
    have vb2 : 0 ≤ dv_ T n a ∧ dv_ T n a ≤ 99999 := vb
    refine s_aload_n dX9_number_109 rfl ?_
    refine s_geti dX9_number_110 fl_X9_104 kl_7 (by decide) rfl io_196 (z := 16) rfl ?_
    rw [e2]
    refine s_iload_n dX9_number_113 rfl ?_
    refine s_isub dX9_number_114 ?_
    refine s_i2l dX9_number_115 (by first | exact hG.2 _ _ | exact b01_in _ | assumption | exact ⟨by omega, by omega⟩) ?_
    refine s_lconstz (z := 1) dX9_number_116 rfl ?_
    refine s_ldc2 dX9_number_117 kc_X9_141 ?_
    refine s_callS (d' := d - 1) (bc' := 0) (bs' := 0) (as := [_, _, _]) dX9_number_120 sf_X9_143 (dd_ (by omega) (by decide)) ⟨Nat.zero_le _, Nat.zero_le _⟩ rfl rfl (Nat.le_of_ble_eq_true rfl) ?_
    refine c_X9_isIn (inI_L ⟨by omega, by omega⟩) ⟨by omega, by omega⟩ ⟨by omega, by omega⟩ ?_
    refine s_if_eq (tgt := 139) dX9_number_123 (by decide) (by first | exact hG.2 _ _ | exact b01_in _ | assumption | exact ⟨by omega, by omega⟩) (fun c1 => ?_) (fun c1 => ?_)
    · have c1 := b01_0.mp c1
      refine s_aload_n dX9_number_139 rfl ?_
      refine s_iload_n dX9_number_140 rfl ?_
      refine s_callV (d' := d - 1) (bc' := 0) (bs' := 0) (as := [_]) dX9_number_141 vf_X9_137 (dd_ (by omega) (by decide)) ⟨Nat.zero_le _, Nat.zero_le _⟩ rfl rfl (Nat.le_of_ble_eq_true rfl) kl_7 rfl io_196 ?_
      refine c_X9_wrong hG (by first | exact hG.2 _ _ | exact ⟨by omega, by omega⟩) (fun hW gW fW eW => ?_)
      have hG1 := gW
      rw [if_pos ok2] at eW
      have SW := wr_of S2 gW (fun x y c => fW x y (by omega)) (fW _ _ (by omega)) eW (by omega) (by omega)
      refine s_aload_n dX9_number_144 rfl ?_
      refine s_iload_n dX9_number_145 rfl ?_
      refine s_putiG 18 dX9_number_146 fl_X9_147 kl_7 (by decide) rfl rfl io_196 (z := 18) rfl (by decide +kernel) hG1 (by first | exact hG1.2 _ _ | exact hG.2 _ _ | exact b01_in _ | assumption | exact ⟨by omega, by omega⟩) (fun hG2 => ?_)
      refine s_iload dX9_number_149 rfl ?_
      have fr9 : AW_ hW (hs_ hW 196 18 (nb_ T n a)) := fun x y c => hs_ne _ (by omega)
      refine s_ireturn dX9_number_151 rfl (k1 (fun q => by unfold okN at q; omega) _ _ ⟨⟨hG2, (fr9 _ _ (by omega)).trans SW.1.2.1, by rw [hs_ne _ (by omega)]; exact SW.1.2.2.1, SW.1.2.2.2.1, fun k p q => (fr9 _ _ (by omega)).trans (SW.1.2.2.2.2 k p q)⟩, SW.2.1.tr fr9, by rw [hs_ne _ (by omega)]; exact SW.2.2.1, SW.2.2.2⟩ ⟨by omega, by omega⟩)
    · have c1 := b01_n.mp c1
      refine s_iload dX9_number_126 rfl ?_
      refine s_i2l dX9_number_128 (by first | exact hG.2 _ _ | exact b01_in _ | assumption | exact ⟨by omega, by omega⟩) ?_
      refine s_iload_n dX9_number_129 rfl ?_
      refine s_i2l dX9_number_130 (by first | exact hG.2 _ _ | exact b01_in _ | assumption | exact ⟨by omega, by omega⟩) ?_
      refine s_iload_n dX9_number_131 rfl ?_
      refine s_i2l dX9_number_132 (by first | exact hG.2 _ _ | exact b01_in _ | assumption | exact ⟨by omega, by omega⟩) ?_
      refine s_callS (d' := d - 1) (bc' := 0) (bs' := 0) (as := [_, _, _]) dX9_number_133 sf_X9_143 (dd_ (by omega) (by decide)) ⟨Nat.zero_le _, Nat.zero_le _⟩ rfl rfl (Nat.le_of_ble_eq_true rfl) ?_
      refine c_X9_isIn (inI_L ⟨by omega, by omega⟩) (inI_L hlo) (inI_L hhi) ?_
      refine s_if_ne (tgt := 144) dX9_number_136 (by decide) (by first | exact hG.2 _ _ | exact b01_in _ | assumption | exact ⟨by omega, by omega⟩) (fun c2 => ?_) (fun c2 => ?_)
      · have c2 := b01_n.mp c2
        refine s_aload_n dX9_number_144 rfl ?_
        refine s_iload_n dX9_number_145 rfl ?_
        refine s_putiG 18 dX9_number_146 fl_X9_147 kl_7 (by decide) rfl rfl io_196 (z := 18) rfl (by decide +kernel) hG (by first | exact hG.2 _ _ | exact b01_in _ | assumption | exact ⟨by omega, by omega⟩) (fun hG3 => ?_)
        refine s_iload dX9_number_149 rfl ?_
        have fr9 : AW_ h2 (hs_ h2 196 18 (nb_ T n a)) := fun x y c => hs_ne _ (by omega)
        refine s_ireturn dX9_number_151 rfl (k (by unfold okN; omega) _ ⟨⟨hG3, (fr9 _ _ (by omega)).trans R2.2.1, by rw [hs_ne _ (by omega)]; exact R2.2.2.1, R2.2.2.2.1, fun k p q => (fr9 _ _ (by omega)).trans (R2.2.2.2.2 k p q)⟩, S2.2.1.tr fr9, by rw [hs_ne _ (by omega)]; exact ok2, Or.inl (by rw [hs_ne _ (by omega)]; exact e2), S2.2.2.2.2⟩ (by rw [hs_ne _ (by omega)]; exact e2) (hs_eq _ _ _ _))
      · have c2 := b01_0.mp c2
        refine s_aload_n dX9_number_139 rfl ?_
        refine s_iload_n dX9_number_140 rfl ?_
        refine s_callV (d' := d - 1) (bc' := 0) (bs' := 0) (as := [_]) dX9_number_141 vf_X9_137 (dd_ (by omega) (by decide)) ⟨Nat.zero_le _, Nat.zero_le _⟩ rfl rfl (Nat.le_of_ble_eq_true rfl) kl_7 rfl io_196 ?_
        refine c_X9_wrong hG (by first | exact hG.2 _ _ | exact ⟨by omega, by omega⟩) (fun hW gW fW eW => ?_)
        have hG4 := gW
        rw [if_pos ok2] at eW
        have SW := wr_of S2 gW (fun x y c => fW x y (by omega)) (fW _ _ (by omega)) eW (by omega) (by omega)
        refine s_aload_n dX9_number_144 rfl ?_
        refine s_iload_n dX9_number_145 rfl ?_
        refine s_putiG 18 dX9_number_146 fl_X9_147 kl_7 (by decide) rfl rfl io_196 (z := 18) rfl (by decide +kernel) hG4 (by first | exact hG4.2 _ _ | exact hG.2 _ _ | exact b01_in _ | assumption | exact ⟨by omega, by omega⟩) (fun hG5 => ?_)
        refine s_iload dX9_number_149 rfl ?_
        have fr9 : AW_ hW (hs_ hW 196 18 (nb_ T n a)) := fun x y c => hs_ne _ (by omega)
        refine s_ireturn dX9_number_151 rfl (k1 (fun q => by unfold okN at q; omega) _ _ ⟨⟨hG5, (fr9 _ _ (by omega)).trans SW.1.2.1, by rw [hs_ne _ (by omega)]; exact SW.1.2.2.1, SW.1.2.2.2.1, fun k p q => (fr9 _ _ (by omega)).trans (SW.1.2.2.2.2 k p q)⟩, SW.2.1.tr fr9, by rw [hs_ne _ (by omega)]; exact SW.2.2.1, SW.2.2.2⟩ ⟨by omega, by omega⟩)
  · exact absurd ok (b01_n.mp c1)
set_option maxRecDepth 100000 in
set_option maxHeartbeats 4000000 in
theorem kw_X9_number {lo hi : Int} (hd : 1 ≤ d) (S : WR9 n T h0 f h) (k : Q.1 (some (0, lo)) nN h) : Cl_ yX9_number MX9_number d bc bs [(2, 196), (0, lo), (0, hi)] nN h Q := by
  refine s_enter pn_X9 rfl (Nat.le_of_ble_eq_true rfl) (L := [(2, _), (0, _), (0, _), (9, 0), (9, 0)]) rfl ?_
  have hG := S.1.1
  have fb := S.2.2.2
  have ok : ¬ h 196 17 = -1 := by have := S.2.2.1; omega
  refine s_aload_n dX9_number_0 rfl ?_
  refine s_callV (d' := d - 1) (bc' := 0) (bs' := 0) (as := []) dX9_number_1 vf_X9_114 (dd_ (by omega) (by decide)) ⟨Nat.zero_le _, Nat.zero_le _⟩ rfl rfl (Nat.le_of_ble_eq_true rfl) kl_7 rfl io_196 ?_
  refine c_X9_isWrong hG ?_
  refine s_if_eq (tgt := 9) dX9_number_4 (by decide) (by first | exact hG.2 _ _ | exact b01_in _ | assumption | exact ⟨by omega, by omega⟩) (fun c1 => ?_) (fun c1 => ?_)
  · exact absurd (b01_0.mp c1) (fun q => q ok)
  · have c1 := b01_n.mp c1
    refine s_iload_n dX9_number_7 rfl ?_
    exact s_ireturn dX9_number_8 rfl k
set_option maxRecDepth 100000 in
set_option maxHeartbeats 4000000 in
theorem c_X9_stop  (hd : 2 ≤ d) (S : OK9 n T h0 a h) (hT : ∀ k : Int, 0 ≤ k → k < n → -128 ≤ T k ∧ T k < 128) (k : okE T n a → ∀ h1 : PH, OK9 n T h0 (nb_ T n a + 1) h1 → h1 196 16 = nb_ T n a + 1 → Q.1 none nN h1) (k1 : ¬ okE T n a → ∀ h1 : PH, WR9 n T h0 (nb_ T n a) h1 → Q.1 none nN h1) : Cl_ yX9_stop MX9_stop d bc bs [(2, 196)] nN h Q := by
  refine s_enter pn_X9 rfl (Nat.le_of_ble_eq_true rfl) (L := [(2, _)]) rfl ?_
  have hG := S.1.1
  have ab := ok_0 S
  have nb0 := nb_0 S
  have ok := S.2.2.1
  have hcb : inI (hc_ T n (nb_ T n a)) ∧ (hc_ T n (nb_ T n a) = 59 ↔ okE T n a) := by
    have tb := hT (nb_ T n a) nb0.1
    unfold hc_ okE
    by_cases c : nb_ T n a < n
    · have tb := tb c
      rw [if_pos c]
      exact ⟨⟨by omega, by omega⟩, by omega⟩
    · rw [if_neg c]
      exact ⟨⟨by omega, by omega⟩, by omega⟩
  have hci := hcb.1
  refine s_aload_n dX9_stop_0 rfl ?_
  refine s_callV (d' := d - 1) (bc' := 0) (bs' := 0) (as := []) dX9_stop_1 vf_X9_114 (dd_ (by omega) (by decide)) ⟨Nat.zero_le _, Nat.zero_le _⟩ rfl rfl (Nat.le_of_ble_eq_true rfl) kl_7 rfl io_196 ?_
  refine c_X9_isWrong hG ?_
  refine s_if_eq (tgt := 8) dX9_stop_4 (by decide) (by first | exact hG.2 _ _ | exact b01_in _ | assumption | exact ⟨by omega, by omega⟩) (fun c1 => ?_) (fun c1 => ?_)
  · have c1 := b01_0.mp c1
    refine s_aload_n dX9_stop_8 rfl ?_
    refine s_callV (d' := d - 1) (bc' := 0) (bs' := 0) (as := []) dX9_stop_9 vf_X9_110 (dd_ (by omega) (by decide)) ⟨Nat.zero_le _, Nat.zero_le _⟩ rfl rfl (Nat.le_of_ble_eq_true rfl) kl_7 rfl io_196 ?_
    refine c_X9_here S.1 (fun h1 R1 f1 e1 => ?_)
    have hG1 := R1.1
    have S1 := ok_at S R1 f1 e1
    have hG := hG1
    rw [ok_nb S] at e1
    rw [ok_nb S]
    have ok2 := S1.2.2.1
    refine s_bipush dX9_stop_12 (by decide) ?_
    refine s_icmp_ne (tgt := 30) dX9_stop_14 (by decide) (by first | exact hG1.2 _ _ | exact hG.2 _ _ | exact b01_in _ | assumption | exact ⟨by omega, by omega⟩) (by first | exact hG1.2 _ _ | exact hG.2 _ _ | exact b01_in _ | assumption | exact ⟨by omega, by omega⟩) (fun c2 => ?_) (fun c2 => ?_)
    · refine s_aload_n dX9_stop_30 rfl ?_
      refine s_aload_n dX9_stop_31 rfl ?_
      refine s_geti dX9_stop_32 fl_X9_104 kl_7 (by decide) rfl io_196 (z := 16) rfl ?_
      rw [e1]
      refine s_callV (d' := d - 1) (bc' := 0) (bs' := 0) (as := [_]) dX9_stop_35 vf_X9_137 (dd_ (by omega) (by decide)) ⟨Nat.zero_le _, Nat.zero_le _⟩ rfl rfl (Nat.le_of_ble_eq_true rfl) kl_7 rfl io_196 ?_
      refine c_X9_wrong hG1 (by first | exact hG1.2 _ _ | exact ⟨by omega, by omega⟩) (fun hW gW fW eW => ?_)
      have hG2 := gW
      rw [if_pos ok2] at eW
      exact s_return dX9_stop_38 rfl (k1 (fun q => absurd (hcb.2.mpr q) (by omega)) hW (wr_of S1 gW (fun x y c => fW x y (by omega)) (fW _ _ (by omega)) eW (by omega) (by omega)))
    · refine s_aload_n dX9_stop_17 rfl ?_
      refine s_dup dX9_stop_18 rfl ?_
      refine s_geti dX9_stop_19 fl_X9_104 kl_7 (by decide) rfl io_196 (z := 16) rfl ?_
      rw [e1]
      refine s_iconst dX9_stop_22 ?_
      refine s_iadd dX9_stop_23 ?_
      refine s_putiG 16 dX9_stop_24 fl_X9_104 kl_7 (by decide) rfl rfl io_196 (z := 16) rfl (by decide +kernel) hG1 (by first | exact hG1.2 _ _ | exact hG.2 _ _ | exact b01_in _ | assumption | exact ⟨by omega, by omega⟩) (fun hG3 => ?_)
      refine s_goto (tgt := 38) dX9_stop_27 (by decide) ?_
      have oe := hcb.2.mp (by omega)
      have e9 : hs_ h1 196 16 (nb_ T n a + 1) 196 16 = nb_ T n a + 1 := hs_eq _ _ _ _
      have at9 : AT_ h1 (hs_ h1 196 16 (nb_ T n a + 1)) := fun x y c => hs_ne _ c
      exact s_return dX9_stop_38 rfl (k oe _ (ok_go S1 (rn_at R1 hG3 at9 (by rw [e9]; have := oe.1; omega)) (at_aw at9) ((at9 _ _ (by omega)).trans ok2) e9) e9)
  · exact absurd ok (b01_n.mp c1)
set_option maxRecDepth 100000 in
set_option maxHeartbeats 4000000 in
theorem kw_X9_stop  (hd : 1 ≤ d) (S : WR9 n T h0 f h) (k : Q.1 none nN h) : Cl_ yX9_stop MX9_stop d bc bs [(2, 196)] nN h Q := by
  refine s_enter pn_X9 rfl (Nat.le_of_ble_eq_true rfl) (L := [(2, _)]) rfl ?_
  have hG := S.1.1
  have fb := S.2.2.2
  have ok : ¬ h 196 17 = -1 := by have := S.2.2.1; omega
  refine s_aload_n dX9_stop_0 rfl ?_
  refine s_callV (d' := d - 1) (bc' := 0) (bs' := 0) (as := []) dX9_stop_1 vf_X9_114 (dd_ (by omega) (by decide)) ⟨Nat.zero_le _, Nat.zero_le _⟩ rfl rfl (Nat.le_of_ble_eq_true rfl) kl_7 rfl io_196 ?_
  refine c_X9_isWrong hG ?_
  refine s_if_eq (tgt := 8) dX9_stop_4 (by decide) (by first | exact hG.2 _ _ | exact b01_in _ | assumption | exact ⟨by omega, by omega⟩) (fun c1 => ?_) (fun c1 => ?_)
  · exact absurd (b01_0.mp c1) (fun q => q ok)
  · have c1 := b01_n.mp c1
    exact s_return dX9_stop_7 rfl k
set_option maxRecDepth 100000 in
set_option maxHeartbeats 4000000 in
theorem lp_X9_find {r v w : Int} {N : Nat} (A : isA nN r 0 N) (hG : G h) (N1 : (N : Int) ≤ 100) (wN : w ≤ N) (hv : inI v) (k : Q.1 (some (0, fd_ (fun i => h r i = v) w.toNat 0)) nN h) : ∀ (m : Nat) (i : Int), (0 ≤ i) → (i + m = w) → (fd_ (fun i => h r i = v) w.toNat 0 = fd_ (fun i => h r i = v) m i) → S_ MX9_find d bc bs Q 2 [(2, r), (0, w), (0, v), (0, i)] [] nN h := by
  intro m
  induction m with
  | zero =>
    intro i i0 im hf
    refine s_iload_n dX9_find_2 rfl ?_
    refine s_iload_n dX9_find_3 rfl ?_
    refine s_icmp_ge (tgt := 22) dX9_find_4 (by decide) (by first | exact hG.2 _ _ | exact b01_in _ | assumption | exact ⟨by omega, by omega⟩) (by first | exact hG.2 _ _ | exact b01_in _ | assumption | exact ⟨by omega, by omega⟩) (fun c1 => ?_) (fun c1 => ?_)
    · refine s_iconst dX9_find_22 ?_
      exact s_ireturn dX9_find_23 rfl (q_val hf k)
    · exact absurd c1 (by omega)
  | succ m ih =>
    intro i i0 im hf
    refine s_iload_n dX9_find_2 rfl ?_
    refine s_iload_n dX9_find_3 rfl ?_
    refine s_icmp_ge (tgt := 22) dX9_find_4 (by decide) (by first | exact hG.2 _ _ | exact b01_in _ | assumption | exact ⟨by omega, by omega⟩) (by first | exact hG.2 _ _ | exact b01_in _ | assumption | exact ⟨by omega, by omega⟩) (fun c1 => ?_) (fun c1 => ?_)
    · exact absurd c1 (by omega)
    · refine s_aload_n dX9_find_7 rfl ?_
      refine s_iload_n dX9_find_8 rfl ?_
      refine s_iaload dX9_find_9 A (by omega) (by omega) ?_
      refine s_iload_n dX9_find_10 rfl ?_
      refine s_icmp_ne (tgt := 16) dX9_find_11 (by decide) (by first | exact hG.2 _ _ | exact b01_in _ | assumption | exact ⟨by omega, by omega⟩) (by first | exact hG.2 _ _ | exact b01_in _ | assumption | exact ⟨by omega, by omega⟩) (fun c2 => ?_) (fun c2 => ?_)
      · refine s_iinc dX9_find_16 rfl (by decide) rfl (L' := [_, _, _, _]) rfl ?_
        refine s_goto (tgt := 2) dX9_find_19 (by decide) ?_
        exact ih (i + 1) (by omega) (by omega) (hf.trans (by rw [fd_, if_neg (by assumption)]))
      · refine s_iload_n dX9_find_14 rfl ?_
        exact s_ireturn dX9_find_15 rfl (q_val (hf.trans (by rw [fd_, if_pos (by assumption)])) k)
set_option maxRecDepth 100000 in
set_option maxHeartbeats 4000000 in
theorem c_X9_find {r v w : Int} {N : Nat} (A : isA nN r 0 N) (hG : G h) (N1 : (N : Int) ≤ 100) (w0 : 0 ≤ w) (wN : w ≤ N) (hv : inI v) (k : Q.1 (some (0, fd_ (fun i => h r i = v) w.toNat 0)) nN h) : Cl_ yX9_find MX9_find d bc bs [(2, r), (0, w), (0, v)] nN h Q := by
  refine s_enter pn_X9 rfl (Nat.le_of_ble_eq_true rfl) (L := [(2, _), (0, _), (0, _), (9, 0)]) rfl ?_
  refine s_iconst dX9_find_0 ?_
  refine s_istore_n dX9_find_1 (by decide) rfl (L' := [_, _, _, _]) rfl ?_
  exact lp_X9_find A hG N1 wN hv k w.toNat 0 (Int.le_refl _) (by omega) rfl
end X9P
