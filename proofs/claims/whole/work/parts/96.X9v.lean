/-! the reference reads: a gift -/
theorem pg_full {k s a n : Int} {T : Int → Int} {y : PH} (c : ¬ y 0 2 < 12) : (pGift k T n s a y).1 = s := by
  unfold pGift
  rw [iC_t c]
theorem pg_T {k s a n : Int} {T : Int → Int} {y : PH} (c : y 0 2 < 12) (t : ¬ (pgT k T n a y).1 = -1) : (pGift k T n s a y).1 = (pgT k T n a y).1 := by
  unfold pGift
  rw [iC_f (fun q => q c), iC_t t]
theorem pg_M {k s a n b : Int} {T : Int → Int} {y Z : PH} (c : y 0 2 < 12) (t : pgT k T n a y = (-1, b, Z)) (m : ¬ (pgM k T n b y).1 = -1) : (pGift k T n s a y).1 = (pgM k T n b y).1 := by
  unfold pGift
  rw [iC_f (fun q => q c), t]
  dsimp only
  rw [iC_f (fun q => q rfl), iC_t m]
theorem pg_W {k s a n b e : Int} {T : Int → Int} {y Z Z2 : PH} (c : y 0 2 < 12) (t : pgT k T n a y = (-1, b, Z)) (m : pgM k T n b y = (-1, e, Z2)) (w : ¬ okW T n e 8) : (pGift k T n s a y).1 = nb_ T n e := by
  unfold pGift
  rw [iC_f (fun q => q c), t]
  dsimp only
  rw [iC_f (fun q => q rfl), m]
  dsimp only
  rw [iC_f (fun q => q rfl), iC_t w]
theorem pg_P {k s a n b e : Int} {T : Int → Int} {y Z Z2 : PH} (c : y 0 2 < 12) (t : pgT k T n a y = (-1, b, Z)) (m : pgM k T n b y = (-1, e, Z2)) (w : okW T n e 8) (p : tP y T n (wn_ T n e) = -1) : (pGift k T n s a y).1 = nb_ T n (wn_ T n e) := by
  unfold pGift
  rw [iC_f (fun q => q c), t]
  dsimp only
  rw [iC_f (fun q => q rfl), m]
  dsimp only
  rw [iC_f (fun q => q rfl), iC_f (fun q => q w), iC_t p]
theorem pg_R {k s a n b e : Int} {T : Int → Int} {y Z Z2 : PH} (c : y 0 2 < 12) (t : pgT k T n a y = (-1, b, Z)) (m : pgM k T n b y = (-1, e, Z2)) (w : okW T n e 8) (p : ¬ tP y T n (wn_ T n e) = -1) (r : ¬ (pgR k T n (wn_ T n (wn_ T n e)) y).1 = -1) : (pGift k T n s a y).1 = (pgR k T n (wn_ T n (wn_ T n e)) y).1 := by
  unfold pGift
  rw [iC_f (fun q => q c), t]
  dsimp only
  rw [iC_f (fun q => q rfl), m]
  dsimp only
  rw [iC_f (fun q => q rfl), iC_f (fun q => q w), iC_f p, iC_t r]
theorem pg_ok {k s a n b e g : Int} {T : Int → Int} {y Z Z2 Z3 : PH} (c : y 0 2 < 12) (t : pgT k T n a y = (-1, b, Z)) (m : pgM k T n b y = (-1, e, Z2)) (w : okW T n e 8) (p : ¬ tP y T n (wn_ T n e) = -1) (r : pgR k T n (wn_ T n (wn_ T n e)) y = (-1, g, Z3)) : pGift k T n s a y = (-1, g, ygi y k (tP y T n (wn_ T n e)) (Z 0 0) (Z2 0 0) (Z3 0 0)) := by
  unfold pGift
  rw [iC_f (fun q => q c), t]
  dsimp only
  rw [iC_f (fun q => q rfl), m]
  dsimp only
  rw [iC_f (fun q => q rfl), iC_f (fun q => q w), iC_f p, r]
  dsimp only
  rw [iC_f (fun q => q rfl)]
theorem gT_ok {k v a n : Int} {T : Int → Int} {y : PH} (kv : k = 0 ∧ v = 1 ∨ k = 2 ∧ v = 2) (mh : mh_ y T n a v) : pgT k T n a y = (-1, wn_ T n a, fun _ _ => tT y T n a) := by
  unfold pgT
  rw [iC_t (by omega), iC_f]
  rintro (q | q | q)
  · exact mh.1 q
  · rcases kv with w | w
    · exact (mh.2.1 w.2).1 q
    · exact mh.2.2.1 w.2 q
  · rcases kv with w | w
    · exact (mh.2.1 w.2).2 q.2
    · have := q.1
      omega
theorem gT_no {k v a n : Int} {T : Int → Int} {y : PH} (kv : k = 0 ∧ v = 1 ∨ k = 2 ∧ v = 2) (mh : ¬ mh_ y T n a v) : (pgT k T n a y).1 = nb_ T n a := by
  unfold pgT
  rw [iC_t (by omega), iC_t]
  refine Classical.byContradiction fun q => mh ⟨fun e => q (Or.inl e), fun e => ⟨fun w => q (Or.inr (Or.inl w)), fun w => q (Or.inr (Or.inr ⟨by omega, w⟩))⟩, fun e w => q (Or.inr (Or.inl w)), fun e => by omega⟩
theorem gT_x {k a n : Int} {T : Int → Int} {y : PH} (kv : k = 1 ∨ k = 3) : pgT k T n a y = (-1, a, fun _ _ => -1) := by
  unfold pgT
  rw [iC_f (by omega)]
theorem gM_0 {a n : Int} {T : Int → Int} {y : PH} : pgM 0 T n a y = (-1, a, fun _ _ => -1) := by
  unfold pgM
  rw [iC_t rfl]
theorem gM_ok {k a n hi : Int} {T : Int → Int} {y : PH} (k0 : ¬ k = 0) (eh : hi = iC (k = 3) 9 9999) (c : okN T n a 1 hi) : pgM k T n a y = (-1, dn_ T n a, fun _ _ => dv_ T n a) := by
  unfold pgM
  rw [iC_f k0, ← eh, iC_f (fun q => q c)]
theorem gM_no {k a n hi : Int} {T : Int → Int} {y : PH} (k0 : ¬ k = 0) (eh : hi = iC (k = 3) 9 9999) (c : ¬ okN T n a 1 hi) : (pgM k T n a y).1 = nb_ T n a := by
  unfold pgM
  rw [iC_f k0, ← eh, iC_t c]
theorem gR_x {k a n : Int} {T : Int → Int} {y : PH} (kv : k = 0 ∨ k = 3) : pgR k T n a y = (-1, a, fun _ _ => -1) := by
  unfold pgR
  rw [iC_f (by omega)]
theorem gR_n {k a n : Int} {T : Int → Int} {y : PH} (kv : k = 1 ∨ k = 2) (w : ¬ nb_ T n a < wn_ T n a) : pgR k T n a y = (-1, nb_ T n a, fun _ _ => 4) := by
  unfold pgR
  rw [iC_t kv, iC_f w]
theorem gR_w {k a n : Int} {T : Int → Int} {y : PH} (kv : k = 1 ∨ k = 2) (w : nb_ T n a < wn_ T n a) (c : ¬ okW T n a 10) : (pgR k T n a y).1 = nb_ T n a := by
  unfold pgR
  rw [iC_t kv, iC_t w, iC_t c]
theorem okW_l {a n : Int} {T : Int → Int} {j : Nat} (hj : j < 23) (c : okW T n a j) : nb_ T n a < wn_ T n a := by
  have l := txl_ j hj
  have e := c.1
  have q : wl__ T n a = wn_ T n a - nb_ T n a := rfl
  omega
theorem gR_no {k a n : Int} {T : Int → Int} {y : PH} (kv : k = 1 ∨ k = 2) (c : okW T n a 10) (m : ¬ okN T n (wn_ T n a) 1 4) : (pgR k T n a y).1 = nb_ T n (wn_ T n a) := by
  unfold pgR
  rw [iC_t kv, iC_t (okW_l (by decide) c), iC_f (fun q => q c), iC_t m]
theorem gR_ok {k a n : Int} {T : Int → Int} {y : PH} (kv : k = 1 ∨ k = 2) (c : okW T n a 10) (m : okN T n (wn_ T n a) 1 4) : pgR k T n a y = (-1, dn_ T n (wn_ T n a), fun _ _ => dv_ T n (wn_ T n a)) := by
  unfold pgR
  rw [iC_t kv, iC_t (okW_l (by decide) c), iC_f (fun q => q c), iC_f (fun q => q m)]
/-- where a word stands, no line ends -/
theorem okE_w {a n : Int} {T : Int → Int} (w : nb_ T n a < wn_ T n a) : ¬ okE T n a := by
  intro q
  have e : we_ T n (nb_ T n a) = nb_ T n a := we_st (fun _ => by have := q.2; omega)
  have e2 : wn_ T n a = we_ T n (nb_ T n a) := rfl
  omega
/-- as LX_; or all is right yet, but no end stands where it has come to, and that is where u is wrong -/
def LY_ (n : Int) (T : Int → Int) (h0 : PH) (u : OU) (h1 : PH) : Prop := LX_ n T h0 u h1 ∨ (RN_ n T h1 ∧ FL_ h0 h1 ∧ h1 196 17 = -1 ∧ ∃ b : Int, (h1 196 16 = b ∨ h1 196 16 = nb_ T n b) ∧ b ≤ n ∧ ¬ okE T n b ∧ u.1 = nb_ T n b)
theorem ln_gift {y h h1 : PH} {g k p t m r : Int} (P : LN_ y h) (eg : g = y 0 2) (t8 : g < 12) (HG : (0 ≤ k ∧ k ≤ 3) ∧ (0 ≤ p ∧ p < y 0 1) ∧ (k = 0 ∨ k = 2 → 0 ≤ t ∧ t < y 0 0) ∧ (k = 1 ∨ k = 3 → t = -1) ∧ (k = 0 → m = -1) ∧ (k = 1 ∨ k = 2 → 1 ≤ m ∧ m ≤ 9999) ∧ (k = 3 → 1 ≤ m ∧ m ≤ 9) ∧ (k = 1 ∨ k = 2 → 1 ≤ r ∧ r ≤ 4) ∧ (k = 0 ∨ k = 3 → r = -1)) (f : ∀ x j : Int, ¬ (x = 196 + 15 ∧ 5 * g ≤ j ∧ j < 5 * g + 5) → ¬ (x = 196 ∧ (16 ≤ j ∧ j ≤ 18 ∨ j = 21)) → h1 x j = h x j) (e0 : h1 (196 + 15) (5 * g + 0) = k) (e1 : h1 (196 + 15) (5 * g + 1) = p) (e2 : h1 (196 + 15) (5 * g + 2) = t) (e3 : h1 (196 + 15) (5 * g + 3) = m) (e4 : h1 (196 + 15) (5 * g + 4) = r) (e5 : h1 196 21 = g + 1) : LN_ (ygi y k p t m r) h1 := by
  subst eg
  obtain ⟨⟨a1, a2, a3⟩, a4, a5, a6, a7, a8, ⟨b1, b2, b3, b4, b5, b6⟩, c1, c2⟩ := P
  have hT := b2.1
  have hP := b2.2.1
  have hN := b2.2.2
  have E00 : ygi y k p t m r 0 0 = y 0 0 := by rw [ygi_0, fu_ne (by omega)]
  have E01 : ygi y k p t m r 0 1 = y 0 1 := by rw [ygi_0, fu_ne (by omega)]
  have E02 : ygi y k p t m r 0 2 = y 0 2 + 1 := by rw [ygi_0, fu_eq]
  have E : ∀ x : Int, ¬ x = 0 → ¬ (5 ≤ x ∧ x ≤ 9) → ygi y k p t m r x = y x := fun x a b => by unfold ygi; rw [if_neg a, if_neg (by omega), if_neg (by omega), if_neg (by omega), if_neg (by omega), if_neg (by omega)]
  have EG : ∀ g : Int, ¬ g = y 0 2 → ygi y k p t m r 5 g = y 5 g ∧ ygi y k p t m r 6 g = y 6 g ∧ ygi y k p t m r 7 g = y 7 g ∧ ygi y k p t m r 8 g = y 8 g ∧ ygi y k p t m r 9 g = y 9 g := fun g c => ⟨by rw [ygi_5, fu_ne c], by rw [ygi_6, fu_ne c], by rw [ygi_7, fu_ne c], by rw [ygi_8, fu_ne c], by rw [ygi_9, fu_ne c]⟩
  have EN : ygi y k p t m r 5 (y 0 2) = k ∧ ygi y k p t m r 6 (y 0 2) = p ∧ ygi y k p t m r 7 (y 0 2) = t ∧ ygi y k p t m r 8 (y 0 2) = m ∧ ygi y k p t m r 9 (y 0 2) = r := ⟨by rw [ygi_5, fu_eq], by rw [ygi_6, fu_eq], by rw [ygi_7, fu_eq], by rw [ygi_8, fu_eq], by rw [ygi_9, fu_eq]⟩
  refine ⟨⟨by rw [f _ _ (by omega) (by omega), E00]; exact a1, by rw [f _ _ (by omega) (by omega), E01]; exact a2, by rw [e5, E02]⟩, fun k p q => ?_, fun t p q => ?_, fun t p q => ?_, fun p a b => ?_, fun g v p q r s => ?_, ⟨by rw [zf_z, E 1 (by omega) (by omega)]; exact zf_z.mp b1, ?_, ?_, ?_, ?_, ?_⟩, fun t p q => ?_, fun t p q => ?_⟩
  · rw [f _ _ (by omega) (by omega), E 1 (by omega) (by omega)]
    exact a4 k p q
  · rw [E00] at q
    rw [f _ _ (by omega) (by omega), E (20 + t) (by omega) (by omega), E 10 (by omega) (by omega)]
    exact a5 t p q
  · rw [E01] at q
    rw [f _ _ (by omega) (by omega), E (30 + t) (by omega) (by omega), E 11 (by omega) (by omega)]
    exact a6 t p q
  · rw [E01] at b
    rw [f _ _ (by omega) (by omega), f _ _ (by omega) (by omega), E 2 (by omega) (by omega), E 3 (by omega) (by omega)]
    exact a7 p a b
  · rw [E02] at q
    by_cases c : g = y 0 2
    · rw [c]
      rcases (by omega : v = 0 ∨ v = 1 ∨ v = 2 ∨ v = 3 ∨ v = 4) with w | w | w | w | w <;> subst w
      · rw [e0]; exact EN.1.symm
      · rw [e1]; exact EN.2.1.symm
      · rw [e2]; exact EN.2.2.1.symm
      · rw [e3]; exact EN.2.2.2.1.symm
      · rw [e4]; exact EN.2.2.2.2.symm
    · rw [f _ _ (by omega) (by omega), a8 g v p (by omega) r s]
      have eg := EG g c
      rcases (by omega : v = 0 ∨ v = 1 ∨ v = 2 ∨ v = 3 ∨ v = 4) with w | w | w | w | w <;> subst w
      · exact eg.1.symm
      · exact eg.2.1.symm
      · exact eg.2.2.1.symm
      · exact eg.2.2.2.1.symm
      · exact eg.2.2.2.2.symm
  · unfold YC_
    rw [E00, E01, E02]
    omega
  · rw [E01]
    exact b3
  · unfold YP_
    rw [E01, E 2 (by omega) (by omega), E 3 (by omega) (by omega)]
    exact b4
  · unfold YG_
    rw [E00, E01, E02]
    intro g g0 g1
    by_cases c : g = y 0 2
    · rw [c, EN.1, EN.2.1, EN.2.2.1, EN.2.2.2.1, EN.2.2.2.2]
      exact HG
    · have eg := EG g c
      rw [eg.1, eg.2.1, eg.2.2.1, eg.2.2.2.1, eg.2.2.2.2]
      exact b5 g g0 (by omega)
  · refine ⟨fun t p q => ?_, fun t p q => ?_⟩
    · rw [E00] at q
      rw [E 10 (by omega) (by omega), E (20 + t) (by omega) (by omega)]
      exact b6.1 t p q
    · rw [E01] at q
      rw [E 11 (by omega) (by omega), E (30 + t) (by omega) (by omega)]
      exact b6.2 t p q
  · rw [E00] at q
    rw [E 10 (by omega) (by omega), E (20 + t) (by omega) (by omega)]
    exact c1 t p q
  · rw [E01] at q
    rw [E 11 (by omega) (by omega), E (30 + t) (by omega) (by omega)]
    exact c2 t p q
section X9V
variable {d bc bs : Nat} {Q : PQ} {h h0 y : PH} {n a f : Int} {T : Int → Int}
set_option maxRecDepth 100000 in
set_option maxHeartbeats 4000000 in
theorem c0_X9_giftLine  (hd : 9 ≤ d) (S : OK9 n T h a h) (e16 : h 196 16 = nb_ T n a) (P : LN_ y h) (cw : iw_ T (nb_ T n a) (wl__ T n a) (24 + 7)) (k : ∀ h1 : PH, LY_ n T h (pGift 0 T n (nb_ T n a) (wn_ T n a) y) h1 → Q.1 none nN h1) : Cl_ yX9_giftLine MX9_giftLine d bc bs [(2, 196), (0, 0)] nN h Q := by
  refine s_enter pn_X9 rfl (Nat.le_of_ble_eq_true rfl) (L := [(2, _), (0, _), (9, 0), (9, 0), (9, 0), (9, 0), (9, 0)]) rfl ?_
  have hG := S.1.1
  have ab := ok_0 S
  have nb0 := nb_0 S
  have yc := ln_c P
  have wle : wl__ T n a = wn_ T n a - nb_ T n a := rfl
  refine s_aload_n dX9_giftLine_0 rfl ?_
  refine s_geti dX9_giftLine_1 fl_X9_214 kl_7 (by decide) rfl io_196 (z := 21) rfl ?_
  rw [P.1.2.2]
  refine s_bipush dX9_giftLine_4 (by decide) ?_
  refine s_icmp_ne (tgt := 17) dX9_giftLine_6 (by decide) (by first | exact hG.2 _ _ | exact b01_in _ | assumption | exact ⟨by omega, by omega⟩) (by first | exact hG.2 _ _ | exact b01_in _ | assumption | exact ⟨by omega, by omega⟩) (fun c1 => ?_) (fun c1 => ?_)
  · refine s_aload_n dX9_giftLine_17 rfl ?_
    refine s_iload_n dX9_giftLine_18 rfl ?_
    refine s_if_ne (tgt := 27) dX9_giftLine_19 (by decide) (by first | exact hG.2 _ _ | exact b01_in _ | assumption | exact ⟨by omega, by omega⟩) (fun c2 => ?_) (fun c2 => ?_)
    · exact absurd rfl c2
    · refine s_ldcS (j := 7) (z := 1000 + ((24 + 7 : Nat) : Int)) dX9_giftLine_22 (by decide) rfl rfl (by decide) ?_
      refine s_goto (tgt := 49) dX9_giftLine_24 (by decide) ?_
      refine s_callV (d' := d - 1) (bc' := 0) (bs' := 0) (as := [_]) dX9_giftLine_49 vf_X9_221 (dd_ (by omega) (by decide)) ⟨Nat.zero_le _, Nat.zero_le _⟩ rfl rfl (Nat.le_of_ble_eq_true rfl) kl_7 rfl io_196 ?_
      refine c_X9_must (j := 24 + 7) (by decide) (by omega) S (fun cc1 h1 S1 e1 => ?_) (fun cc _ _ => absurd cw cc)
      have hG1 := S1.1.1
      have hG := hG1
      have S := S1
      have nb0 := nb_0 S
      refine s_iload_n dX9_giftLine_52 rfl ?_
      refine s_if_ne (tgt := 64) dX9_giftLine_53 (by decide) (by first | exact hG1.2 _ _ | exact hG.2 _ _ | exact b01_in _ | assumption | exact ⟨by omega, by omega⟩) (fun c3 => ?_) (fun c3 => ?_)
      · exact absurd rfl c3
      · refine s_aload_n dX9_giftLine_56 rfl ?_
        refine s_iconst dX9_giftLine_57 ?_
        refine s_callV (d' := d - 1) (bc' := 0) (bs' := 0) (as := [_]) dX9_giftLine_58 vf_X9_236 (dd_ (by omega) (by decide)) ⟨Nat.zero_le _, Nat.zero_le _⟩ rfl rfl (Nat.le_of_ble_eq_true rfl) kl_7 rfl io_196 ?_
        refine c1_X9_thingHere (by omega) S P (fun cc2 h2 S2 e2 => ?_) (fun cc3 h3 W3 => ?_)
        · have hG2 := S2.1.1
          have hG := hG2
          have S := S2
          have nb0 := nb_0 S
          have mh := cc2
          have tb := tT_bd y T n (wn_ T n a)
          have tb2 : 0 ≤ tT y T n (wn_ T n a) ∧ tT y T n (wn_ T n a) < y 0 0 := by have q := mh.1; omega
          refine s_goto (tgt := 78) dX9_giftLine_61 (by decide) ?_
          refine s_istore_n dX9_giftLine_78 (by decide) rfl (L' := [_, _, _, _, _, _, _]) rfl ?_
          refine s_iload_n dX9_giftLine_79 rfl ?_
          refine s_if_ne (tgt := 87) dX9_giftLine_80 (by decide) (by first | exact hG2.2 _ _ | exact hG.2 _ _ | exact b01_in _ | assumption | exact ⟨by omega, by omega⟩) (fun c4 => ?_) (fun c4 => ?_)
          · exact absurd rfl c4
          · refine s_iconst dX9_giftLine_83 ?_
            refine s_goto (tgt := 105) dX9_giftLine_84 (by decide) ?_
            refine s_istore_n dX9_giftLine_105 (by decide) rfl (L' := [_, _, _, _, _, _, _]) rfl ?_
            refine s_aload_n dX9_giftLine_106 rfl ?_
            refine s_ldcS (j := 8) (z := 1000 + ((24 + 8 : Nat) : Int)) dX9_giftLine_107 (by decide) rfl rfl (by decide) ?_
            refine s_callV (d' := d - 1) (bc' := 0) (bs' := 0) (as := [_]) dX9_giftLine_109 vf_X9_221 (dd_ (by omega) (by decide)) ⟨Nat.zero_le _, Nat.zero_le _⟩ rfl rfl (Nat.le_of_ble_eq_true rfl) kl_7 rfl io_196 ?_
            refine c_X9_must (j := 24 + 8) (by decide) (by omega) S (fun cc4 h4 S4 e4 => ?_) (fun cc5 h5 W5 => ?_)
            · have hG4 := S4.1.1
              have hG := hG4
              have S := S4
              have nb0 := nb_0 S
              have okw8 : okW T n (wn_ T n (wn_ T n a)) 8 := (iw_24 (j := 8) (by decide)).mp cc4
              refine s_aload_n dX9_giftLine_112 rfl ?_
              refine s_callV (d' := d - 1) (bc' := 0) (bs' := 0) (as := []) dX9_giftLine_113 vf_X9_233 (dd_ (by omega) (by decide)) ⟨Nat.zero_le _, Nat.zero_le _⟩ rfl rfl (Nat.le_of_ble_eq_true rfl) kl_7 rfl io_196 ?_
              refine c_X9_personHere (by omega) S P (fun cc6 h6 S6 e6 => ?_) (fun cc7 h7 W7 => ?_)
              · have hG6 := S6.1.1
                have hG := hG6
                have S := S6
                have nb0 := nb_0 S
                have cp := cc6
                have pb := tP_bd y T n (wn_ T n (wn_ T n (wn_ T n a)))
                have pb2 : 0 ≤ tP y T n (wn_ T n (wn_ T n (wn_ T n a))) ∧ tP y T n (wn_ T n (wn_ T n (wn_ T n a))) < y 0 1 := by omega
                refine s_istore dX9_giftLine_116 (by decide) rfl (L' := [_, _, _, _, _, _, _]) rfl ?_
                refine s_iload_n dX9_giftLine_118 rfl ?_
                refine s_iconst dX9_giftLine_119 ?_
                refine s_icmp_eq (tgt := 128) dX9_giftLine_120 (by decide) (by first | exact hG6.2 _ _ | exact hG.2 _ _ | exact b01_in _ | assumption | exact ⟨by omega, by omega⟩) (by first | exact hG6.2 _ _ | exact hG.2 _ _ | exact b01_in _ | assumption | exact ⟨by omega, by omega⟩) (fun c5 => ?_) (fun c5 => ?_)
                · exact absurd c5 (by decide)
                · refine s_iload_n dX9_giftLine_123 rfl ?_
                  refine s_iconst dX9_giftLine_124 ?_
                  refine s_icmp_ne (tgt := 132) dX9_giftLine_125 (by decide) (by first | exact hG6.2 _ _ | exact hG.2 _ _ | exact b01_in _ | assumption | exact ⟨by omega, by omega⟩) (by first | exact hG6.2 _ _ | exact hG.2 _ _ | exact b01_in _ | assumption | exact ⟨by omega, by omega⟩) (fun c6 => ?_) (fun c6 => ?_)
                  · refine s_iconst dX9_giftLine_132 ?_
                    refine s_istore dX9_giftLine_133 (by decide) rfl (L' := [_, _, _, _, _, _, _]) rfl ?_
                    refine s_iload dX9_giftLine_135 rfl ?_
                    refine s_iconst dX9_giftLine_137 ?_
                    refine s_icmp_ne (tgt := 158) dX9_giftLine_138 (by decide) (by first | exact hG6.2 _ _ | exact hG.2 _ _ | exact b01_in _ | assumption | exact ⟨by omega, by omega⟩) (by first | exact hG6.2 _ _ | exact hG.2 _ _ | exact b01_in _ | assumption | exact ⟨by omega, by omega⟩) (fun c7 => ?_) (fun c7 => ?_)
                    · refine s_aload_n dX9_giftLine_158 rfl ?_
                      refine s_callV (d' := d - 1) (bc' := 0) (bs' := 0) (as := []) dX9_giftLine_159 vf_X9_114 (dd_ (by omega) (by decide)) ⟨Nat.zero_le _, Nat.zero_le _⟩ rfl rfl (Nat.le_of_ble_eq_true rfl) kl_7 rfl io_196 ?_
                      refine c_X9_isWrong hG6 ?_
                      refine s_if_eq (tgt := 166) dX9_giftLine_162 (by decide) (by first | exact hG6.2 _ _ | exact hG.2 _ _ | exact b01_in _ | assumption | exact ⟨by omega, by omega⟩) (fun c8 => ?_) (fun c8 => ?_)
                      · have c8 := b01_0.mp c8
                        refine s_iconst dX9_giftLine_166 ?_
                        refine s_aload_n dX9_giftLine_167 rfl ?_
                        refine s_geti dX9_giftLine_168 fl_X9_214 kl_7 (by decide) rfl io_196 (z := 21) rfl ?_
                        have P9 := ln_aw P S.2.1
                        rw [P9.1.2.2]
                        refine s_imul dX9_giftLine_171 ?_
                        refine s_istore dX9_giftLine_172 (by decide) rfl (L' := [_, _, _, _, _, _, _]) rfl ?_
                        refine s_aload_n dX9_giftLine_174 rfl ?_
                        refine s_getr dX9_giftLine_175 fl_X9_58 kl_7 (by decide) rfl io_196 (z := 27) rfl (rf_7_27 hG6.1 io_196) (rk_7_27 io_196).1 ?_
                        refine s_iload dX9_giftLine_178 rfl ?_
                        refine s_iload_n dX9_giftLine_180 rfl ?_
                        refine s_iastoreG dX9_giftLine_181 (rk_7_27 io_196) (by omega) (by omega) hG6 (by first | exact hG6.2 _ _ | exact hG.2 _ _ | exact b01_in _ | assumption | exact ⟨by omega, by omega⟩) (fun hG8 => ?_)
                        refine s_aload_n dX9_giftLine_182 rfl ?_
                        refine s_getr dX9_giftLine_183 fl_X9_58 kl_7 (by decide) rfl io_196 (z := 27) rfl (rf_7_27 hG8.1 io_196) (rk_7_27 io_196).1 ?_
                        refine s_iload dX9_giftLine_186 rfl ?_
                        refine s_iconst dX9_giftLine_188 ?_
                        refine s_iadd dX9_giftLine_189 ?_
                        refine s_iload dX9_giftLine_190 rfl ?_
                        refine s_iastoreG dX9_giftLine_192 (rk_7_27 io_196) (by omega) (by omega) hG8 (by first | exact hG8.2 _ _ | exact hG.2 _ _ | exact b01_in _ | assumption | exact ⟨by omega, by omega⟩) (fun hG9 => ?_)
                        refine s_aload_n dX9_giftLine_193 rfl ?_
                        refine s_getr dX9_giftLine_194 fl_X9_58 kl_7 (by decide) rfl io_196 (z := 27) rfl (rf_7_27 hG9.1 io_196) (rk_7_27 io_196).1 ?_
                        refine s_iload dX9_giftLine_197 rfl ?_
                        refine s_iconst dX9_giftLine_199 ?_
                        refine s_iadd dX9_giftLine_200 ?_
                        refine s_iload_n dX9_giftLine_201 rfl ?_
                        refine s_iastoreG dX9_giftLine_202 (rk_7_27 io_196) (by omega) (by omega) hG9 (by first | exact hG9.2 _ _ | exact hG.2 _ _ | exact b01_in _ | assumption | exact ⟨by omega, by omega⟩) (fun hG10 => ?_)
                        refine s_aload_n dX9_giftLine_203 rfl ?_
                        refine s_getr dX9_giftLine_204 fl_X9_58 kl_7 (by decide) rfl io_196 (z := 27) rfl (rf_7_27 hG10.1 io_196) (rk_7_27 io_196).1 ?_
                        refine s_iload dX9_giftLine_207 rfl ?_
                        refine s_iconst dX9_giftLine_209 ?_
                        refine s_iadd dX9_giftLine_210 ?_
                        refine s_iload_n dX9_giftLine_211 rfl ?_
                        refine s_iastoreG dX9_giftLine_212 (rk_7_27 io_196) (by omega) (by omega) hG10 (by first | exact hG10.2 _ _ | exact hG.2 _ _ | exact b01_in _ | assumption | exact ⟨by omega, by omega⟩) (fun hG11 => ?_)
                        refine s_aload_n dX9_giftLine_213 rfl ?_
                        refine s_getr dX9_giftLine_214 fl_X9_58 kl_7 (by decide) rfl io_196 (z := 27) rfl (rf_7_27 hG11.1 io_196) (rk_7_27 io_196).1 ?_
                        refine s_iload dX9_giftLine_217 rfl ?_
                        refine s_iconst dX9_giftLine_219 ?_
                        refine s_iadd dX9_giftLine_220 ?_
                        refine s_iload dX9_giftLine_221 rfl ?_
                        refine s_iastoreG dX9_giftLine_223 (rk_7_27 io_196) (by omega) (by omega) hG11 (by first | exact hG11.2 _ _ | exact hG.2 _ _ | exact b01_in _ | assumption | exact ⟨by omega, by omega⟩) (fun hG12 => ?_)
                        refine s_aload_n dX9_giftLine_224 rfl ?_
                        refine s_dup dX9_giftLine_225 rfl ?_
                        refine s_geti dX9_giftLine_226 fl_X9_214 kl_7 (by decide) rfl io_196 (z := 21) rfl ?_
                        rw [hs_ne _ (by omega), hs_ne _ (by omega), hs_ne _ (by omega), hs_ne _ (by omega), hs_ne _ (by omega), P9.1.2.2]
                        refine s_iconst dX9_giftLine_229 ?_
                        refine s_iadd dX9_giftLine_230 ?_
                        refine s_putiG 21 dX9_giftLine_231 fl_X9_214 kl_7 (by decide) rfl rfl io_196 (z := 21) rfl (by decide +kernel) hG12 (by first | exact hG12.2 _ _ | exact hG.2 _ _ | exact b01_in _ | assumption | exact ⟨by omega, by omega⟩) (fun hG13 => ?_)
                        exact s_return dX9_giftLine_234 rfl (k _ (Or.inl (lx_o (b := 0) S hG13 (fun x k p q => by rw [hs_ne _ (by omega), hs_ne _ (by omega), hs_ne _ (by omega), hs_ne _ (by omega), hs_ne _ (by omega), hs_ne _ (by omega)]) (pg_ok (by omega) (gT_ok (v := 1) (by omega) mh) gM_0 okw8 cp (gR_x (by omega))) (ln_gift (g := y 0 2) (k := 0) (p := tP y T n (wn_ T n (wn_ T n (wn_ T n a)))) (t := tT y T n (wn_ T n a)) (m := -1) (r := -1) P9 rfl (by omega) ⟨by omega, pb2, by omega, by omega, by omega, by omega, by omega, by omega, by omega⟩ (fun x j p q => by rw [hs_ne _ (by omega), hs_ne _ (by omega), hs_ne _ (by omega), hs_ne _ (by omega), hs_ne _ (by omega), hs_ne _ (by omega)]) (by rw [hs_ne _ (by omega), hs_ne _ (by omega), hs_ne _ (by omega), hs_ne _ (by omega), hs_ne _ (by omega), show 5 * y 0 2 + 0 = 5 * y 0 2 by omega, hs_eq]) (by rw [hs_ne _ (by omega), hs_ne _ (by omega), hs_ne _ (by omega), hs_ne _ (by omega), hs_eq]) (by rw [hs_ne _ (by omega), hs_ne _ (by omega), hs_ne _ (by omega), hs_eq]) (by rw [hs_ne _ (by omega), hs_ne _ (by omega), hs_eq]) (by rw [hs_ne _ (by omega), hs_eq]) (hs_eq _ _ _ _)))))
                      · exact absurd S.2.2.1 (b01_n.mp c8)
                    · exact absurd c7 (by decide)
                  · exact absurd c6 (by decide)
              · have hG7 := W7.1.1
                have hG := hG7
                have W := W7
                have cc := cc7
                have hu : (pGift 0 T n (nb_ T n a) (wn_ T n a) y).1 = nb_ T n (wn_ T n (wn_ T n (wn_ T n a))) := pg_P (by omega) (gT_ok (v := 1) (by omega) mh) gM_0 okw8 cc
                refine s_istore dX9_giftLine_116 (by decide) rfl (L' := [_, _, _, _, _, _, _]) rfl ?_
                refine s_iload_n dX9_giftLine_118 rfl ?_
                refine s_iconst dX9_giftLine_119 ?_
                refine s_icmp_eq (tgt := 128) dX9_giftLine_120 (by decide) (by first | exact hG7.2 _ _ | exact hG.2 _ _ | exact b01_in _ | assumption | exact ⟨by omega, by omega⟩) (by first | exact hG7.2 _ _ | exact hG.2 _ _ | exact b01_in _ | assumption | exact ⟨by omega, by omega⟩) (fun c9 => ?_) (fun c9 => ?_)
                · exact absurd c9 (by decide)
                · refine s_iload_n dX9_giftLine_123 rfl ?_
                  refine s_iconst dX9_giftLine_124 ?_
                  refine s_icmp_ne (tgt := 132) dX9_giftLine_125 (by decide) (by first | exact hG7.2 _ _ | exact hG.2 _ _ | exact b01_in _ | assumption | exact ⟨by omega, by omega⟩) (by first | exact hG7.2 _ _ | exact hG.2 _ _ | exact b01_in _ | assumption | exact ⟨by omega, by omega⟩) (fun c10 => ?_) (fun c10 => ?_)
                  · refine s_iconst dX9_giftLine_132 ?_
                    refine s_istore dX9_giftLine_133 (by decide) rfl (L' := [_, _, _, _, _, _, _]) rfl ?_
                    refine s_iload dX9_giftLine_135 rfl ?_
                    refine s_iconst dX9_giftLine_137 ?_
                    refine s_icmp_ne (tgt := 158) dX9_giftLine_138 (by decide) (by first | exact hG7.2 _ _ | exact hG.2 _ _ | exact b01_in _ | assumption | exact ⟨by omega, by omega⟩) (by first | exact hG7.2 _ _ | exact hG.2 _ _ | exact b01_in _ | assumption | exact ⟨by omega, by omega⟩) (fun c11 => ?_) (fun c11 => ?_)
                    · refine s_aload_n dX9_giftLine_158 rfl ?_
                      refine s_callV (d' := d - 1) (bc' := 0) (bs' := 0) (as := []) dX9_giftLine_159 vf_X9_114 (dd_ (by omega) (by decide)) ⟨Nat.zero_le _, Nat.zero_le _⟩ rfl rfl (Nat.le_of_ble_eq_true rfl) kl_7 rfl io_196 ?_
                      refine c_X9_isWrong hG7 ?_
                      refine s_if_eq (tgt := 166) dX9_giftLine_162 (by decide) (by first | exact hG7.2 _ _ | exact hG.2 _ _ | exact b01_in _ | assumption | exact ⟨by omega, by omega⟩) (fun c12 => ?_) (fun c12 => ?_)
                      · exact absurd (wr_ne W) (b01_0.mp c12)
                      · have c12 := b01_n.mp c12
                        exact s_return dX9_giftLine_165 rfl (k _ (Or.inl (lx_w W hu)))
                    · exact absurd c11 (by decide)
                  · exact absurd c10 (by decide)
            · have hG5 := W5.1.1
              have hG := hG5
              have W := W5
              have cc : ¬ okW T n (wn_ T n (wn_ T n a)) 8 := fun q => cc5 ((iw_24 (j := 8) (by decide)).mpr q)
              have hu : (pGift 0 T n (nb_ T n a) (wn_ T n a) y).1 = nb_ T n (wn_ T n (wn_ T n a)) := pg_W (by omega) (gT_ok (v := 1) (by omega) mh) gM_0 cc
              refine s_aload_n dX9_giftLine_112 rfl ?_
              refine s_callV (d' := d - 1) (bc' := 0) (bs' := 0) (as := []) dX9_giftLine_113 vf_X9_233 (dd_ (by omega) (by decide)) ⟨Nat.zero_le _, Nat.zero_le _⟩ rfl rfl (Nat.le_of_ble_eq_true rfl) kl_7 rfl io_196 ?_
              refine kw_X9_personHere (by omega) W P (fun hhG14 WhG14 => ?_)
              have hG14 := WhG14.1.1
              have hG := hG14
              have W := WhG14
              refine s_istore dX9_giftLine_116 (by decide) rfl (L' := [_, _, _, _, _, _, _]) rfl ?_
              refine s_iload_n dX9_giftLine_118 rfl ?_
              refine s_iconst dX9_giftLine_119 ?_
              refine s_icmp_eq (tgt := 128) dX9_giftLine_120 (by decide) (by first | exact hG14.2 _ _ | exact hG.2 _ _ | exact b01_in _ | assumption | exact ⟨by omega, by omega⟩) (by first | exact hG14.2 _ _ | exact hG.2 _ _ | exact b01_in _ | assumption | exact ⟨by omega, by omega⟩) (fun c13 => ?_) (fun c13 => ?_)
              · exact absurd c13 (by decide)
              · refine s_iload_n dX9_giftLine_123 rfl ?_
                refine s_iconst dX9_giftLine_124 ?_
                refine s_icmp_ne (tgt := 132) dX9_giftLine_125 (by decide) (by first | exact hG14.2 _ _ | exact hG.2 _ _ | exact b01_in _ | assumption | exact ⟨by omega, by omega⟩) (by first | exact hG14.2 _ _ | exact hG.2 _ _ | exact b01_in _ | assumption | exact ⟨by omega, by omega⟩) (fun c14 => ?_) (fun c14 => ?_)
                · refine s_iconst dX9_giftLine_132 ?_
                  refine s_istore dX9_giftLine_133 (by decide) rfl (L' := [_, _, _, _, _, _, _]) rfl ?_
                  refine s_iload dX9_giftLine_135 rfl ?_
                  refine s_iconst dX9_giftLine_137 ?_
                  refine s_icmp_ne (tgt := 158) dX9_giftLine_138 (by decide) (by first | exact hG14.2 _ _ | exact hG.2 _ _ | exact b01_in _ | assumption | exact ⟨by omega, by omega⟩) (by first | exact hG14.2 _ _ | exact hG.2 _ _ | exact b01_in _ | assumption | exact ⟨by omega, by omega⟩) (fun c15 => ?_) (fun c15 => ?_)
                  · refine s_aload_n dX9_giftLine_158 rfl ?_
                    refine s_callV (d' := d - 1) (bc' := 0) (bs' := 0) (as := []) dX9_giftLine_159 vf_X9_114 (dd_ (by omega) (by decide)) ⟨Nat.zero_le _, Nat.zero_le _⟩ rfl rfl (Nat.le_of_ble_eq_true rfl) kl_7 rfl io_196 ?_
                    refine c_X9_isWrong hG14 ?_
                    refine s_if_eq (tgt := 166) dX9_giftLine_162 (by decide) (by first | exact hG14.2 _ _ | exact hG.2 _ _ | exact b01_in _ | assumption | exact ⟨by omega, by omega⟩) (fun c16 => ?_) (fun c16 => ?_)
                    · exact absurd (wr_ne W) (b01_0.mp c16)
                    · have c16 := b01_n.mp c16
                      exact s_return dX9_giftLine_165 rfl (k _ (Or.inl (lx_w W hu)))
                  · exact absurd c15 (by decide)
                · exact absurd c14 (by decide)
        · have hG3 := W3.1.1
          have hG := hG3
          have W := W3
          have cc := cc3
          have e9 := gT_no (k := 0) (v := 1) (by omega) cc
          have hu : (pGift 0 T n (nb_ T n a) (wn_ T n a) y).1 = nb_ T n (wn_ T n a) := (pg_T (by omega) (by rw [e9]; omega)).trans e9
          refine s_goto (tgt := 78) dX9_giftLine_61 (by decide) ?_
          refine s_istore_n dX9_giftLine_78 (by decide) rfl (L' := [_, _, _, _, _, _, _]) rfl ?_
          refine s_iload_n dX9_giftLine_79 rfl ?_
          refine s_if_ne (tgt := 87) dX9_giftLine_80 (by decide) (by first | exact hG3.2 _ _ | exact hG.2 _ _ | exact b01_in _ | assumption | exact ⟨by omega, by omega⟩) (fun c17 => ?_) (fun c17 => ?_)
          · exact absurd rfl c17
          · refine s_iconst dX9_giftLine_83 ?_
            refine s_goto (tgt := 105) dX9_giftLine_84 (by decide) ?_
            refine s_istore_n dX9_giftLine_105 (by decide) rfl (L' := [_, _, _, _, _, _, _]) rfl ?_
            refine s_aload_n dX9_giftLine_106 rfl ?_
            refine s_ldcS (j := 8) (z := 1000 + ((24 + 8 : Nat) : Int)) dX9_giftLine_107 (by decide) rfl rfl (by decide) ?_
            refine s_callV (d' := d - 1) (bc' := 0) (bs' := 0) (as := [_]) dX9_giftLine_109 vf_X9_221 (dd_ (by omega) (by decide)) ⟨Nat.zero_le _, Nat.zero_le _⟩ rfl rfl (Nat.le_of_ble_eq_true rfl) kl_7 rfl io_196 ?_
            refine kw_X9_must (by omega) W (fun hhG15 WhG15 => ?_)
            have hG15 := WhG15.1.1
            have hG := hG15
            have W := WhG15
            refine s_aload_n dX9_giftLine_112 rfl ?_
            refine s_callV (d' := d - 1) (bc' := 0) (bs' := 0) (as := []) dX9_giftLine_113 vf_X9_233 (dd_ (by omega) (by decide)) ⟨Nat.zero_le _, Nat.zero_le _⟩ rfl rfl (Nat.le_of_ble_eq_true rfl) kl_7 rfl io_196 ?_
            refine kw_X9_personHere (by omega) W P (fun hhG16 WhG16 => ?_)
            have hG16 := WhG16.1.1
            have hG := hG16
            have W := WhG16
            refine s_istore dX9_giftLine_116 (by decide) rfl (L' := [_, _, _, _, _, _, _]) rfl ?_
            refine s_iload_n dX9_giftLine_118 rfl ?_
            refine s_iconst dX9_giftLine_119 ?_
            refine s_icmp_eq (tgt := 128) dX9_giftLine_120 (by decide) (by first | exact hG16.2 _ _ | exact hG.2 _ _ | exact b01_in _ | assumption | exact ⟨by omega, by omega⟩) (by first | exact hG16.2 _ _ | exact hG.2 _ _ | exact b01_in _ | assumption | exact ⟨by omega, by omega⟩) (fun c18 => ?_) (fun c18 => ?_)
            · exact absurd c18 (by decide)
            · refine s_iload_n dX9_giftLine_123 rfl ?_
              refine s_iconst dX9_giftLine_124 ?_
              refine s_icmp_ne (tgt := 132) dX9_giftLine_125 (by decide) (by first | exact hG16.2 _ _ | exact hG.2 _ _ | exact b01_in _ | assumption | exact ⟨by omega, by omega⟩) (by first | exact hG16.2 _ _ | exact hG.2 _ _ | exact b01_in _ | assumption | exact ⟨by omega, by omega⟩) (fun c19 => ?_) (fun c19 => ?_)
              · refine s_iconst dX9_giftLine_132 ?_
                refine s_istore dX9_giftLine_133 (by decide) rfl (L' := [_, _, _, _, _, _, _]) rfl ?_
                refine s_iload dX9_giftLine_135 rfl ?_
                refine s_iconst dX9_giftLine_137 ?_
                refine s_icmp_ne (tgt := 158) dX9_giftLine_138 (by decide) (by first | exact hG16.2 _ _ | exact hG.2 _ _ | exact b01_in _ | assumption | exact ⟨by omega, by omega⟩) (by first | exact hG16.2 _ _ | exact hG.2 _ _ | exact b01_in _ | assumption | exact ⟨by omega, by omega⟩) (fun c20 => ?_) (fun c20 => ?_)
                · refine s_aload_n dX9_giftLine_158 rfl ?_
                  refine s_callV (d' := d - 1) (bc' := 0) (bs' := 0) (as := []) dX9_giftLine_159 vf_X9_114 (dd_ (by omega) (by decide)) ⟨Nat.zero_le _, Nat.zero_le _⟩ rfl rfl (Nat.le_of_ble_eq_true rfl) kl_7 rfl io_196 ?_
                  refine c_X9_isWrong hG16 ?_
                  refine s_if_eq (tgt := 166) dX9_giftLine_162 (by decide) (by first | exact hG16.2 _ _ | exact hG.2 _ _ | exact b01_in _ | assumption | exact ⟨by omega, by omega⟩) (fun c21 => ?_) (fun c21 => ?_)
                  · exact absurd (wr_ne W) (b01_0.mp c21)
                  · have c21 := b01_n.mp c21
                    exact s_return dX9_giftLine_165 rfl (k _ (Or.inl (lx_w W hu)))
                · exact absurd c20 (by decide)
              · exact absurd c19 (by decide)
  · refine s_aload_n dX9_giftLine_9 rfl ?_
    refine s_aload_n dX9_giftLine_10 rfl ?_
    refine s_geti dX9_giftLine_11 fl_X9_104 kl_7 (by decide) rfl io_196 (z := 16) rfl ?_
    rw [e16]
    refine s_callV (d' := d - 1) (bc' := 0) (bs' := 0) (as := [_]) dX9_giftLine_14 vf_X9_137 (dd_ (by omega) (by decide)) ⟨Nat.zero_le _, Nat.zero_le _⟩ rfl rfl (Nat.le_of_ble_eq_true rfl) kl_7 rfl io_196 ?_
    refine c_X9_wrong hG ⟨by omega, by omega⟩ (fun h17 g17 f17 w17 => ?_)
    have hG17 := g17
    have hG := hG17
    rw [if_pos S.2.2.1] at w17
    have W := wr_of S g17 (fun x y c => f17 x y (by omega)) (f17 _ _ (by omega)) w17 (by omega) (by omega)
    have hu : (pGift 0 T n (nb_ T n a) (wn_ T n a) y).1 = nb_ T n a := pg_full (by omega)
    refine s_aload_n dX9_giftLine_17 rfl ?_
    refine s_iload_n dX9_giftLine_18 rfl ?_
    refine s_if_ne (tgt := 27) dX9_giftLine_19 (by decide) (by first | exact hG17.2 _ _ | exact hG.2 _ _ | exact b01_in _ | assumption | exact ⟨by omega, by omega⟩) (fun c22 => ?_) (fun c22 => ?_)
    · exact absurd rfl c22
    · refine s_ldcS (j := 7) (z := 1000 + ((24 + 7 : Nat) : Int)) dX9_giftLine_22 (by decide) rfl rfl (by decide) ?_
      refine s_goto (tgt := 49) dX9_giftLine_24 (by decide) ?_
      refine s_callV (d' := d - 1) (bc' := 0) (bs' := 0) (as := [_]) dX9_giftLine_49 vf_X9_221 (dd_ (by omega) (by decide)) ⟨Nat.zero_le _, Nat.zero_le _⟩ rfl rfl (Nat.le_of_ble_eq_true rfl) kl_7 rfl io_196 ?_
      refine kw_X9_must (by omega) W (fun hhG18 WhG18 => ?_)
      have hG18 := WhG18.1.1
      have hG := hG18
      have W := WhG18
      refine s_iload_n dX9_giftLine_52 rfl ?_
      refine s_if_ne (tgt := 64) dX9_giftLine_53 (by decide) (by first | exact hG18.2 _ _ | exact hG.2 _ _ | exact b01_in _ | assumption | exact ⟨by omega, by omega⟩) (fun c23 => ?_) (fun c23 => ?_)
      · exact absurd rfl c23
      · refine s_aload_n dX9_giftLine_56 rfl ?_
        refine s_iconst dX9_giftLine_57 ?_
        refine s_callV (d' := d - 1) (bc' := 0) (bs' := 0) (as := [_]) dX9_giftLine_58 vf_X9_236 (dd_ (by omega) (by decide)) ⟨Nat.zero_le _, Nat.zero_le _⟩ rfl rfl (Nat.le_of_ble_eq_true rfl) kl_7 rfl io_196 ?_
        refine kw_X9_thingHere (by omega) W P (fun hhG19 WhG19 => ?_)
        have hG19 := WhG19.1.1
        have hG := hG19
        have W := WhG19
        refine s_goto (tgt := 78) dX9_giftLine_61 (by decide) ?_
        refine s_istore_n dX9_giftLine_78 (by decide) rfl (L' := [_, _, _, _, _, _, _]) rfl ?_
        refine s_iload_n dX9_giftLine_79 rfl ?_
        refine s_if_ne (tgt := 87) dX9_giftLine_80 (by decide) (by first | exact hG19.2 _ _ | exact hG.2 _ _ | exact b01_in _ | assumption | exact ⟨by omega, by omega⟩) (fun c24 => ?_) (fun c24 => ?_)
        · exact absurd rfl c24
        · refine s_iconst dX9_giftLine_83 ?_
          refine s_goto (tgt := 105) dX9_giftLine_84 (by decide) ?_
          refine s_istore_n dX9_giftLine_105 (by decide) rfl (L' := [_, _, _, _, _, _, _]) rfl ?_
          refine s_aload_n dX9_giftLine_106 rfl ?_
          refine s_ldcS (j := 8) (z := 1000 + ((24 + 8 : Nat) : Int)) dX9_giftLine_107 (by decide) rfl rfl (by decide) ?_
          refine s_callV (d' := d - 1) (bc' := 0) (bs' := 0) (as := [_]) dX9_giftLine_109 vf_X9_221 (dd_ (by omega) (by decide)) ⟨Nat.zero_le _, Nat.zero_le _⟩ rfl rfl (Nat.le_of_ble_eq_true rfl) kl_7 rfl io_196 ?_
          refine kw_X9_must (by omega) W (fun hhG20 WhG20 => ?_)
          have hG20 := WhG20.1.1
          have hG := hG20
          have W := WhG20
          refine s_aload_n dX9_giftLine_112 rfl ?_
          refine s_callV (d' := d - 1) (bc' := 0) (bs' := 0) (as := []) dX9_giftLine_113 vf_X9_233 (dd_ (by omega) (by decide)) ⟨Nat.zero_le _, Nat.zero_le _⟩ rfl rfl (Nat.le_of_ble_eq_true rfl) kl_7 rfl io_196 ?_
          refine kw_X9_personHere (by omega) W P (fun hhG21 WhG21 => ?_)
          have hG21 := WhG21.1.1
          have hG := hG21
          have W := WhG21
          refine s_istore dX9_giftLine_116 (by decide) rfl (L' := [_, _, _, _, _, _, _]) rfl ?_
          refine s_iload_n dX9_giftLine_118 rfl ?_
          refine s_iconst dX9_giftLine_119 ?_
          refine s_icmp_eq (tgt := 128) dX9_giftLine_120 (by decide) (by first | exact hG21.2 _ _ | exact hG.2 _ _ | exact b01_in _ | assumption | exact ⟨by omega, by omega⟩) (by first | exact hG21.2 _ _ | exact hG.2 _ _ | exact b01_in _ | assumption | exact ⟨by omega, by omega⟩) (fun c25 => ?_) (fun c25 => ?_)
          · exact absurd c25 (by decide)
          · refine s_iload_n dX9_giftLine_123 rfl ?_
            refine s_iconst dX9_giftLine_124 ?_
            refine s_icmp_ne (tgt := 132) dX9_giftLine_125 (by decide) (by first | exact hG21.2 _ _ | exact hG.2 _ _ | exact b01_in _ | assumption | exact ⟨by omega, by omega⟩) (by first | exact hG21.2 _ _ | exact hG.2 _ _ | exact b01_in _ | assumption | exact ⟨by omega, by omega⟩) (fun c26 => ?_) (fun c26 => ?_)
            · refine s_iconst dX9_giftLine_132 ?_
              refine s_istore dX9_giftLine_133 (by decide) rfl (L' := [_, _, _, _, _, _, _]) rfl ?_
              refine s_iload dX9_giftLine_135 rfl ?_
              refine s_iconst dX9_giftLine_137 ?_
              refine s_icmp_ne (tgt := 158) dX9_giftLine_138 (by decide) (by first | exact hG21.2 _ _ | exact hG.2 _ _ | exact b01_in _ | assumption | exact ⟨by omega, by omega⟩) (by first | exact hG21.2 _ _ | exact hG.2 _ _ | exact b01_in _ | assumption | exact ⟨by omega, by omega⟩) (fun c27 => ?_) (fun c27 => ?_)
              · refine s_aload_n dX9_giftLine_158 rfl ?_
                refine s_callV (d' := d - 1) (bc' := 0) (bs' := 0) (as := []) dX9_giftLine_159 vf_X9_114 (dd_ (by omega) (by decide)) ⟨Nat.zero_le _, Nat.zero_le _⟩ rfl rfl (Nat.le_of_ble_eq_true rfl) kl_7 rfl io_196 ?_
                refine c_X9_isWrong hG21 ?_
                refine s_if_eq (tgt := 166) dX9_giftLine_162 (by decide) (by first | exact hG21.2 _ _ | exact hG.2 _ _ | exact b01_in _ | assumption | exact ⟨by omega, by omega⟩) (fun c28 => ?_) (fun c28 => ?_)
                · exact absurd (wr_ne W) (b01_0.mp c28)
                · have c28 := b01_n.mp c28
                  exact s_return dX9_giftLine_165 rfl (k _ (Or.inl (lx_w W hu)))
              · exact absurd c27 (by decide)
            · exact absurd c26 (by decide)
set_option maxRecDepth 100000 in
set_option maxHeartbeats 4000000 in
theorem c1_X9_giftLine  (hd : 9 ≤ d) (S : OK9 n T h a h) (e16 : h 196 16 = nb_ T n a) (P : LN_ y h) (cw : iw_ T (nb_ T n a) (wl__ T n a) (24 + 9)) (k : ∀ h1 : PH, LY_ n T h (pGift 1 T n (nb_ T n a) (wn_ T n a) y) h1 → Q.1 none nN h1) : Cl_ yX9_giftLine MX9_giftLine d bc bs [(2, 196), (0, 1)] nN h Q := by
  refine s_enter pn_X9 rfl (Nat.le_of_ble_eq_true rfl) (L := [(2, _), (0, _), (9, 0), (9, 0), (9, 0), (9, 0), (9, 0)]) rfl ?_
  have hG := S.1.1
  have ab := ok_0 S
  have nb0 := nb_0 S
  have yc := ln_c P
  have wle : wl__ T n a = wn_ T n a - nb_ T n a := rfl
  have eh : (9999 : Int) = iC ((1 : Int) = 3) 9 9999 := (iC_f (by decide)).symm
  refine s_aload_n dX9_giftLine_0 rfl ?_
  refine s_geti dX9_giftLine_1 fl_X9_214 kl_7 (by decide) rfl io_196 (z := 21) rfl ?_
  rw [P.1.2.2]
  refine s_bipush dX9_giftLine_4 (by decide) ?_
  refine s_icmp_ne (tgt := 17) dX9_giftLine_6 (by decide) (by first | exact hG.2 _ _ | exact b01_in _ | assumption | exact ⟨by omega, by omega⟩) (by first | exact hG.2 _ _ | exact b01_in _ | assumption | exact ⟨by omega, by omega⟩) (fun c1 => ?_) (fun c1 => ?_)
  · refine s_aload_n dX9_giftLine_17 rfl ?_
    refine s_iload_n dX9_giftLine_18 rfl ?_
    refine s_if_ne (tgt := 27) dX9_giftLine_19 (by decide) (by first | exact hG.2 _ _ | exact b01_in _ | assumption | exact ⟨by omega, by omega⟩) (fun c2 => ?_) (fun c2 => ?_)
    · refine s_iload_n dX9_giftLine_27 rfl ?_
      refine s_iconst dX9_giftLine_28 ?_
      refine s_icmp_ne (tgt := 37) dX9_giftLine_29 (by decide) (by first | exact hG.2 _ _ | exact b01_in _ | assumption | exact ⟨by omega, by omega⟩) (by first | exact hG.2 _ _ | exact b01_in _ | assumption | exact ⟨by omega, by omega⟩) (fun c3 => ?_) (fun c3 => ?_)
      · exact absurd rfl c3
      · refine s_ldcS (j := 9) (z := 1000 + ((24 + 9 : Nat) : Int)) dX9_giftLine_32 (by decide) rfl rfl (by decide) ?_
        refine s_goto (tgt := 49) dX9_giftLine_34 (by decide) ?_
        refine s_callV (d' := d - 1) (bc' := 0) (bs' := 0) (as := [_]) dX9_giftLine_49 vf_X9_221 (dd_ (by omega) (by decide)) ⟨Nat.zero_le _, Nat.zero_le _⟩ rfl rfl (Nat.le_of_ble_eq_true rfl) kl_7 rfl io_196 ?_
        refine c_X9_must (j := 24 + 9) (by decide) (by omega) S (fun cc1 h1 S1 e1 => ?_) (fun cc _ _ => absurd cw cc)
        have hG1 := S1.1.1
        have hG := hG1
        have S := S1
        have nb0 := nb_0 S
        refine s_iload_n dX9_giftLine_52 rfl ?_
        refine s_if_ne (tgt := 64) dX9_giftLine_53 (by decide) (by first | exact hG1.2 _ _ | exact hG.2 _ _ | exact b01_in _ | assumption | exact ⟨by omega, by omega⟩) (fun c4 => ?_) (fun c4 => ?_)
        · refine s_iload_n dX9_giftLine_64 rfl ?_
          refine s_iconst dX9_giftLine_65 ?_
          refine s_icmp_ne (tgt := 77) dX9_giftLine_66 (by decide) (by first | exact hG1.2 _ _ | exact hG.2 _ _ | exact b01_in _ | assumption | exact ⟨by omega, by omega⟩) (by first | exact hG1.2 _ _ | exact hG.2 _ _ | exact b01_in _ | assumption | exact ⟨by omega, by omega⟩) (fun c5 => ?_) (fun c5 => ?_)
          · refine s_iconst dX9_giftLine_77 ?_
            refine s_istore_n dX9_giftLine_78 (by decide) rfl (L' := [_, _, _, _, _, _, _]) rfl ?_
            refine s_iload_n dX9_giftLine_79 rfl ?_
            refine s_if_ne (tgt := 87) dX9_giftLine_80 (by decide) (by first | exact hG1.2 _ _ | exact hG.2 _ _ | exact b01_in _ | assumption | exact ⟨by omega, by omega⟩) (fun c6 => ?_) (fun c6 => ?_)
            · refine s_aload_n dX9_giftLine_87 rfl ?_
              refine s_iconst dX9_giftLine_88 ?_
              refine s_iload_n dX9_giftLine_89 rfl ?_
              refine s_iconst dX9_giftLine_90 ?_
              refine s_icmp_ne (tgt := 99) dX9_giftLine_91 (by decide) (by first | exact hG1.2 _ _ | exact hG.2 _ _ | exact b01_in _ | assumption | exact ⟨by omega, by omega⟩) (by first | exact hG1.2 _ _ | exact hG.2 _ _ | exact b01_in _ | assumption | exact ⟨by omega, by omega⟩) (fun c7 => ?_) (fun c7 => ?_)
              · refine s_sipush dX9_giftLine_99 (by decide) ?_
                refine s_callV (d' := d - 1) (bc' := 0) (bs' := 0) (as := [_, _]) dX9_giftLine_102 vf_X9_229 (dd_ (by omega) (by decide)) ⟨Nat.zero_le _, Nat.zero_le _⟩ rfl rfl (Nat.le_of_ble_eq_true rfl) kl_7 rfl io_196 ?_
                refine c_X9_number (by omega) S ⟨by decide, by decide⟩ ⟨by decide, by decide⟩ (fun cc2 h2 S2 e2 m2 => ?_) (fun cc3 h3 v3 W3 hv3 => ?_)
                · have nb1 := nb_0 S
                  have hG2 := S2.1.1
                  have hG := hG2
                  have S := S2
                  have nb0 := nb_0 S
                  have c1n := cc2
                  have c1nb := cc2.2
                  refine s_istore_n dX9_giftLine_105 (by decide) rfl (L' := [_, _, _, _, _, _, _]) rfl ?_
                  refine s_aload_n dX9_giftLine_106 rfl ?_
                  refine s_ldcS (j := 8) (z := 1000 + ((24 + 8 : Nat) : Int)) dX9_giftLine_107 (by decide) rfl rfl (by decide) ?_
                  refine s_callV (d' := d - 1) (bc' := 0) (bs' := 0) (as := [_]) dX9_giftLine_109 vf_X9_221 (dd_ (by omega) (by decide)) ⟨Nat.zero_le _, Nat.zero_le _⟩ rfl rfl (Nat.le_of_ble_eq_true rfl) kl_7 rfl io_196 ?_
                  refine c_X9_must (j := 24 + 8) (by decide) (by omega) S (fun cc4 h4 S4 e4 => ?_) (fun cc5 h5 W5 => ?_)
                  · have hG4 := S4.1.1
                    have hG := hG4
                    have S := S4
                    have nb0 := nb_0 S
                    have okw8 : okW T n (dn_ T n (wn_ T n a)) 8 := (iw_24 (j := 8) (by decide)).mp cc4
                    refine s_aload_n dX9_giftLine_112 rfl ?_
                    refine s_callV (d' := d - 1) (bc' := 0) (bs' := 0) (as := []) dX9_giftLine_113 vf_X9_233 (dd_ (by omega) (by decide)) ⟨Nat.zero_le _, Nat.zero_le _⟩ rfl rfl (Nat.le_of_ble_eq_true rfl) kl_7 rfl io_196 ?_
                    refine c_X9_personHere (by omega) S P (fun cc6 h6 S6 e6 => ?_) (fun cc7 h7 W7 => ?_)
                    · have hG6 := S6.1.1
                      have hG := hG6
                      have S := S6
                      have nb0 := nb_0 S
                      have cp := cc6
                      have pb := tP_bd y T n (wn_ T n (dn_ T n (wn_ T n a)))
                      have pb2 : 0 ≤ tP y T n (wn_ T n (dn_ T n (wn_ T n a))) ∧ tP y T n (wn_ T n (dn_ T n (wn_ T n a))) < y 0 1 := by omega
                      refine s_istore dX9_giftLine_116 (by decide) rfl (L' := [_, _, _, _, _, _, _]) rfl ?_
                      refine s_iload_n dX9_giftLine_118 rfl ?_
                      refine s_iconst dX9_giftLine_119 ?_
                      refine s_icmp_eq (tgt := 128) dX9_giftLine_120 (by decide) (by first | exact hG6.2 _ _ | exact hG.2 _ _ | exact b01_in _ | assumption | exact ⟨by omega, by omega⟩) (by first | exact hG6.2 _ _ | exact hG.2 _ _ | exact b01_in _ | assumption | exact ⟨by omega, by omega⟩) (fun c8 => ?_) (fun c8 => ?_)
                      · refine s_iconst dX9_giftLine_128 ?_
                        refine s_goto (tgt := 133) dX9_giftLine_129 (by decide) ?_
                        refine s_istore dX9_giftLine_133 (by decide) rfl (L' := [_, _, _, _, _, _, _]) rfl ?_
                        refine s_iload dX9_giftLine_135 rfl ?_
                        refine s_iconst dX9_giftLine_137 ?_
                        refine s_icmp_ne (tgt := 158) dX9_giftLine_138 (by decide) (by first | exact hG6.2 _ _ | exact hG.2 _ _ | exact b01_in _ | assumption | exact ⟨by omega, by omega⟩) (by first | exact hG6.2 _ _ | exact hG.2 _ _ | exact b01_in _ | assumption | exact ⟨by omega, by omega⟩) (fun c9 => ?_) (fun c9 => ?_)
                        · exact absurd rfl c9
                        · refine s_aload_n dX9_giftLine_141 rfl ?_
                          refine s_ldcS (j := 10) (z := 1000 + ((24 + 10 : Nat) : Int)) dX9_giftLine_142 (by decide) rfl rfl (by decide) ?_
                          refine s_callV (d' := d - 1) (bc' := 0) (bs' := 0) (as := [_]) dX9_giftLine_144 vf_X9_134 (dd_ (by omega) (by decide)) ⟨Nat.zero_le _, Nat.zero_le _⟩ rfl rfl (Nat.le_of_ble_eq_true rfl) kl_7 rfl io_196 ?_
                          refine c_X9_takesWord (j := 24 + 10) (by decide) (by omega) S (fun cc8 h8 S8 e8 => ?_) (fun cc9 h9 S9 e9 => ?_)
                          · have hG8 := S8.1.1
                            have hG := hG8
                            have S := S8
                            have nb0 := nb_0 S
                            have okw10 : okW T n (wn_ T n (wn_ T n (dn_ T n (wn_ T n a)))) 10 := (iw_24 (j := 10) (by decide)).mp cc8
                            refine s_if_eq (tgt := 158) dX9_giftLine_147 (by decide) (by first | exact hG8.2 _ _ | exact hG.2 _ _ | exact b01_in _ | assumption | exact ⟨by omega, by omega⟩) (fun c10 => ?_) (fun c10 => ?_)
                            · exact absurd (show (1 : Int) = 0 from c10) (by decide)
                            · refine s_aload_n dX9_giftLine_150 rfl ?_
                              refine s_iconst dX9_giftLine_151 ?_
                              refine s_iconst dX9_giftLine_152 ?_
                              refine s_callV (d' := d - 1) (bc' := 0) (bs' := 0) (as := [_, _]) dX9_giftLine_153 vf_X9_229 (dd_ (by omega) (by decide)) ⟨Nat.zero_le _, Nat.zero_le _⟩ rfl rfl (Nat.le_of_ble_eq_true rfl) kl_7 rfl io_196 ?_
                              refine c_X9_number (by omega) S ⟨by decide, by decide⟩ ⟨by decide, by decide⟩ (fun cc10 h10 S10 e10 m10 => ?_) (fun cc11 h11 v11 W11 hv11 => ?_)
                              · have nb1 := nb_0 S
                                have hG10 := S10.1.1
                                have hG := hG10
                                have S := S10
                                have nb0 := nb_0 S
                                have c2n := cc10
                                have c2nb := cc10.2
                                refine s_istore dX9_giftLine_156 (by decide) rfl (L' := [_, _, _, _, _, _, _]) rfl ?_
                                refine s_aload_n dX9_giftLine_158 rfl ?_
                                refine s_callV (d' := d - 1) (bc' := 0) (bs' := 0) (as := []) dX9_giftLine_159 vf_X9_114 (dd_ (by omega) (by decide)) ⟨Nat.zero_le _, Nat.zero_le _⟩ rfl rfl (Nat.le_of_ble_eq_true rfl) kl_7 rfl io_196 ?_
                                refine c_X9_isWrong hG10 ?_
                                refine s_if_eq (tgt := 166) dX9_giftLine_162 (by decide) (by first | exact hG10.2 _ _ | exact hG.2 _ _ | exact b01_in _ | assumption | exact ⟨by omega, by omega⟩) (fun c11 => ?_) (fun c11 => ?_)
                                · have c11 := b01_0.mp c11
                                  refine s_iconst dX9_giftLine_166 ?_
                                  refine s_aload_n dX9_giftLine_167 rfl ?_
                                  refine s_geti dX9_giftLine_168 fl_X9_214 kl_7 (by decide) rfl io_196 (z := 21) rfl ?_
                                  have P9 := ln_aw P S.2.1
                                  rw [P9.1.2.2]
                                  refine s_imul dX9_giftLine_171 ?_
                                  refine s_istore dX9_giftLine_172 (by decide) rfl (L' := [_, _, _, _, _, _, _]) rfl ?_
                                  refine s_aload_n dX9_giftLine_174 rfl ?_
                                  refine s_getr dX9_giftLine_175 fl_X9_58 kl_7 (by decide) rfl io_196 (z := 27) rfl (rf_7_27 hG10.1 io_196) (rk_7_27 io_196).1 ?_
                                  refine s_iload dX9_giftLine_178 rfl ?_
                                  refine s_iload_n dX9_giftLine_180 rfl ?_
                                  refine s_iastoreG dX9_giftLine_181 (rk_7_27 io_196) (by omega) (by omega) hG10 (by first | exact hG10.2 _ _ | exact hG.2 _ _ | exact b01_in _ | assumption | exact ⟨by omega, by omega⟩) (fun hG12 => ?_)
                                  refine s_aload_n dX9_giftLine_182 rfl ?_
                                  refine s_getr dX9_giftLine_183 fl_X9_58 kl_7 (by decide) rfl io_196 (z := 27) rfl (rf_7_27 hG12.1 io_196) (rk_7_27 io_196).1 ?_
                                  refine s_iload dX9_giftLine_186 rfl ?_
                                  refine s_iconst dX9_giftLine_188 ?_
                                  refine s_iadd dX9_giftLine_189 ?_
                                  refine s_iload dX9_giftLine_190 rfl ?_
                                  refine s_iastoreG dX9_giftLine_192 (rk_7_27 io_196) (by omega) (by omega) hG12 (by first | exact hG12.2 _ _ | exact hG.2 _ _ | exact b01_in _ | assumption | exact ⟨by omega, by omega⟩) (fun hG13 => ?_)
                                  refine s_aload_n dX9_giftLine_193 rfl ?_
                                  refine s_getr dX9_giftLine_194 fl_X9_58 kl_7 (by decide) rfl io_196 (z := 27) rfl (rf_7_27 hG13.1 io_196) (rk_7_27 io_196).1 ?_
                                  refine s_iload dX9_giftLine_197 rfl ?_
                                  refine s_iconst dX9_giftLine_199 ?_
                                  refine s_iadd dX9_giftLine_200 ?_
                                  refine s_iload_n dX9_giftLine_201 rfl ?_
                                  refine s_iastoreG dX9_giftLine_202 (rk_7_27 io_196) (by omega) (by omega) hG13 (by first | exact hG13.2 _ _ | exact hG.2 _ _ | exact b01_in _ | assumption | exact ⟨by omega, by omega⟩) (fun hG14 => ?_)
                                  refine s_aload_n dX9_giftLine_203 rfl ?_
                                  refine s_getr dX9_giftLine_204 fl_X9_58 kl_7 (by decide) rfl io_196 (z := 27) rfl (rf_7_27 hG14.1 io_196) (rk_7_27 io_196).1 ?_
                                  refine s_iload dX9_giftLine_207 rfl ?_
                                  refine s_iconst dX9_giftLine_209 ?_
                                  refine s_iadd dX9_giftLine_210 ?_
                                  refine s_iload_n dX9_giftLine_211 rfl ?_
                                  refine s_iastoreG dX9_giftLine_212 (rk_7_27 io_196) (by omega) (by omega) hG14 (by first | exact hG14.2 _ _ | exact hG.2 _ _ | exact b01_in _ | assumption | exact ⟨by omega, by omega⟩) (fun hG15 => ?_)
                                  refine s_aload_n dX9_giftLine_213 rfl ?_
                                  refine s_getr dX9_giftLine_214 fl_X9_58 kl_7 (by decide) rfl io_196 (z := 27) rfl (rf_7_27 hG15.1 io_196) (rk_7_27 io_196).1 ?_
                                  refine s_iload dX9_giftLine_217 rfl ?_
                                  refine s_iconst dX9_giftLine_219 ?_
                                  refine s_iadd dX9_giftLine_220 ?_
                                  refine s_iload dX9_giftLine_221 rfl ?_
                                  refine s_iastoreG dX9_giftLine_223 (rk_7_27 io_196) (by omega) (by omega) hG15 (by first | exact hG15.2 _ _ | exact hG.2 _ _ | exact b01_in _ | assumption | exact ⟨by omega, by omega⟩) (fun hG16 => ?_)
                                  refine s_aload_n dX9_giftLine_224 rfl ?_
                                  refine s_dup dX9_giftLine_225 rfl ?_
                                  refine s_geti dX9_giftLine_226 fl_X9_214 kl_7 (by decide) rfl io_196 (z := 21) rfl ?_
                                  rw [hs_ne _ (by omega), hs_ne _ (by omega), hs_ne _ (by omega), hs_ne _ (by omega), hs_ne _ (by omega), P9.1.2.2]
                                  refine s_iconst dX9_giftLine_229 ?_
                                  refine s_iadd dX9_giftLine_230 ?_
                                  refine s_putiG 21 dX9_giftLine_231 fl_X9_214 kl_7 (by decide) rfl rfl io_196 (z := 21) rfl (by decide +kernel) hG16 (by first | exact hG16.2 _ _ | exact hG.2 _ _ | exact b01_in _ | assumption | exact ⟨by omega, by omega⟩) (fun hG17 => ?_)
                                  exact s_return dX9_giftLine_234 rfl (k _ (Or.inl (lx_o (b := 0) S hG17 (fun x k p q => by rw [hs_ne _ (by omega), hs_ne _ (by omega), hs_ne _ (by omega), hs_ne _ (by omega), hs_ne _ (by omega), hs_ne _ (by omega)]) (pg_ok (by omega) (gT_x (by omega)) (gM_ok (hi := 9999) (by decide) eh c1n) okw8 cp (gR_ok (by omega) okw10 c2n)) (ln_gift (g := y 0 2) (k := 1) (p := tP y T n (wn_ T n (dn_ T n (wn_ T n a)))) (t := -1) (m := dv_ T n (wn_ T n a)) (r := dv_ T n (wn_ T n (wn_ T n (wn_ T n (dn_ T n (wn_ T n a)))))) P9 rfl (by omega) ⟨by omega, pb2, by omega, by omega, by omega, by omega, by omega, by omega, by omega⟩ (fun x j p q => by rw [hs_ne _ (by omega), hs_ne _ (by omega), hs_ne _ (by omega), hs_ne _ (by omega), hs_ne _ (by omega), hs_ne _ (by omega)]) (by rw [hs_ne _ (by omega), hs_ne _ (by omega), hs_ne _ (by omega), hs_ne _ (by omega), hs_ne _ (by omega), show 5 * y 0 2 + 0 = 5 * y 0 2 by omega, hs_eq]) (by rw [hs_ne _ (by omega), hs_ne _ (by omega), hs_ne _ (by omega), hs_ne _ (by omega), hs_eq]) (by rw [hs_ne _ (by omega), hs_ne _ (by omega), hs_ne _ (by omega), hs_eq]) (by rw [hs_ne _ (by omega), hs_ne _ (by omega), hs_eq]) (by rw [hs_ne _ (by omega), hs_eq]) (hs_eq _ _ _ _)))))
                                · exact absurd S.2.2.1 (b01_n.mp c11)
                              · have nb1 := nb_0 S
                                have hG11 := W11.1.1
                                have hG := hG11
                                have W := W11
                                have cc := cc11
                                have e9 := gR_no (k := 1) (y := y) (by omega) okw10 cc
                                have hu : (pGift 1 T n (nb_ T n a) (wn_ T n a) y).1 = nb_ T n (wn_ T n (wn_ T n (wn_ T n (dn_ T n (wn_ T n a))))) := (pg_R (by omega) (gT_x (by omega)) (gM_ok (hi := 9999) (by decide) eh c1n) okw8 cp (by rw [e9]; omega)).trans e9
                                refine s_istore dX9_giftLine_156 (by decide) rfl (L' := [_, _, _, _, _, _, _]) rfl ?_
                                refine s_aload_n dX9_giftLine_158 rfl ?_
                                refine s_callV (d' := d - 1) (bc' := 0) (bs' := 0) (as := []) dX9_giftLine_159 vf_X9_114 (dd_ (by omega) (by decide)) ⟨Nat.zero_le _, Nat.zero_le _⟩ rfl rfl (Nat.le_of_ble_eq_true rfl) kl_7 rfl io_196 ?_
                                refine c_X9_isWrong hG11 ?_
                                refine s_if_eq (tgt := 166) dX9_giftLine_162 (by decide) (by first | exact hG11.2 _ _ | exact hG.2 _ _ | exact b01_in _ | assumption | exact ⟨by omega, by omega⟩) (fun c12 => ?_) (fun c12 => ?_)
                                · exact absurd (wr_ne W) (b01_0.mp c12)
                                · have c12 := b01_n.mp c12
                                  exact s_return dX9_giftLine_165 rfl (k _ (Or.inl (lx_w W hu)))
                          · have hG9 := S9.1.1
                            have hG := hG9
                            have S := S9
                            have nb0 := nb_0 S
                            have nok10 : ¬ okW T n (wn_ T n (wn_ T n (dn_ T n (wn_ T n a)))) 10 := fun q => cc9 ((iw_24 (j := 10) (by decide)).mpr q)
                            have e16n := e9
                            refine s_if_eq (tgt := 158) dX9_giftLine_147 (by decide) (by first | exact hG9.2 _ _ | exact hG.2 _ _ | exact b01_in _ | assumption | exact ⟨by omega, by omega⟩) (fun c13 => ?_) (fun c13 => ?_)
                            · refine s_aload_n dX9_giftLine_158 rfl ?_
                              refine s_callV (d' := d - 1) (bc' := 0) (bs' := 0) (as := []) dX9_giftLine_159 vf_X9_114 (dd_ (by omega) (by decide)) ⟨Nat.zero_le _, Nat.zero_le _⟩ rfl rfl (Nat.le_of_ble_eq_true rfl) kl_7 rfl io_196 ?_
                              refine c_X9_isWrong hG9 ?_
                              refine s_if_eq (tgt := 166) dX9_giftLine_162 (by decide) (by first | exact hG9.2 _ _ | exact hG.2 _ _ | exact b01_in _ | assumption | exact ⟨by omega, by omega⟩) (fun c14 => ?_) (fun c14 => ?_)
                              · have c14 := b01_0.mp c14
                                refine s_iconst dX9_giftLine_166 ?_
                                refine s_aload_n dX9_giftLine_167 rfl ?_
                                refine s_geti dX9_giftLine_168 fl_X9_214 kl_7 (by decide) rfl io_196 (z := 21) rfl ?_
                                have P9 := ln_aw P S.2.1
                                rw [P9.1.2.2]
                                refine s_imul dX9_giftLine_171 ?_
                                refine s_istore dX9_giftLine_172 (by decide) rfl (L' := [_, _, _, _, _, _, _]) rfl ?_
                                refine s_aload_n dX9_giftLine_174 rfl ?_
                                refine s_getr dX9_giftLine_175 fl_X9_58 kl_7 (by decide) rfl io_196 (z := 27) rfl (rf_7_27 hG9.1 io_196) (rk_7_27 io_196).1 ?_
                                refine s_iload dX9_giftLine_178 rfl ?_
                                refine s_iload_n dX9_giftLine_180 rfl ?_
                                refine s_iastoreG dX9_giftLine_181 (rk_7_27 io_196) (by omega) (by omega) hG9 (by first | exact hG9.2 _ _ | exact hG.2 _ _ | exact b01_in _ | assumption | exact ⟨by omega, by omega⟩) (fun hG18 => ?_)
                                refine s_aload_n dX9_giftLine_182 rfl ?_
                                refine s_getr dX9_giftLine_183 fl_X9_58 kl_7 (by decide) rfl io_196 (z := 27) rfl (rf_7_27 hG18.1 io_196) (rk_7_27 io_196).1 ?_
                                refine s_iload dX9_giftLine_186 rfl ?_
                                refine s_iconst dX9_giftLine_188 ?_
                                refine s_iadd dX9_giftLine_189 ?_
                                refine s_iload dX9_giftLine_190 rfl ?_
                                refine s_iastoreG dX9_giftLine_192 (rk_7_27 io_196) (by omega) (by omega) hG18 (by first | exact hG18.2 _ _ | exact hG.2 _ _ | exact b01_in _ | assumption | exact ⟨by omega, by omega⟩) (fun hG19 => ?_)
                                refine s_aload_n dX9_giftLine_193 rfl ?_
                                refine s_getr dX9_giftLine_194 fl_X9_58 kl_7 (by decide) rfl io_196 (z := 27) rfl (rf_7_27 hG19.1 io_196) (rk_7_27 io_196).1 ?_
                                refine s_iload dX9_giftLine_197 rfl ?_
                                refine s_iconst dX9_giftLine_199 ?_
                                refine s_iadd dX9_giftLine_200 ?_
                                refine s_iload_n dX9_giftLine_201 rfl ?_
                                refine s_iastoreG dX9_giftLine_202 (rk_7_27 io_196) (by omega) (by omega) hG19 (by first | exact hG19.2 _ _ | exact hG.2 _ _ | exact b01_in _ | assumption | exact ⟨by omega, by omega⟩) (fun hG20 => ?_)
                                refine s_aload_n dX9_giftLine_203 rfl ?_
                                refine s_getr dX9_giftLine_204 fl_X9_58 kl_7 (by decide) rfl io_196 (z := 27) rfl (rf_7_27 hG20.1 io_196) (rk_7_27 io_196).1 ?_
                                refine s_iload dX9_giftLine_207 rfl ?_
                                refine s_iconst dX9_giftLine_209 ?_
                                refine s_iadd dX9_giftLine_210 ?_
                                refine s_iload_n dX9_giftLine_211 rfl ?_
                                refine s_iastoreG dX9_giftLine_212 (rk_7_27 io_196) (by omega) (by omega) hG20 (by first | exact hG20.2 _ _ | exact hG.2 _ _ | exact b01_in _ | assumption | exact ⟨by omega, by omega⟩) (fun hG21 => ?_)
                                refine s_aload_n dX9_giftLine_213 rfl ?_
                                refine s_getr dX9_giftLine_214 fl_X9_58 kl_7 (by decide) rfl io_196 (z := 27) rfl (rf_7_27 hG21.1 io_196) (rk_7_27 io_196).1 ?_
                                refine s_iload dX9_giftLine_217 rfl ?_
                                refine s_iconst dX9_giftLine_219 ?_
                                refine s_iadd dX9_giftLine_220 ?_
                                refine s_iload dX9_giftLine_221 rfl ?_
                                refine s_iastoreG dX9_giftLine_223 (rk_7_27 io_196) (by omega) (by omega) hG21 (by first | exact hG21.2 _ _ | exact hG.2 _ _ | exact b01_in _ | assumption | exact ⟨by omega, by omega⟩) (fun hG22 => ?_)
                                refine s_aload_n dX9_giftLine_224 rfl ?_
                                refine s_dup dX9_giftLine_225 rfl ?_
                                refine s_geti dX9_giftLine_226 fl_X9_214 kl_7 (by decide) rfl io_196 (z := 21) rfl ?_
                                rw [hs_ne _ (by omega), hs_ne _ (by omega), hs_ne _ (by omega), hs_ne _ (by omega), hs_ne _ (by omega), P9.1.2.2]
                                refine s_iconst dX9_giftLine_229 ?_
                                refine s_iadd dX9_giftLine_230 ?_
                                refine s_putiG 21 dX9_giftLine_231 fl_X9_214 kl_7 (by decide) rfl rfl io_196 (z := 21) rfl (by decide +kernel) hG22 (by first | exact hG22.2 _ _ | exact hG.2 _ _ | exact b01_in _ | assumption | exact ⟨by omega, by omega⟩) (fun hG23 => ?_)
                                by_cases cw9 : nb_ T n (wn_ T n (wn_ T n (dn_ T n (wn_ T n a)))) < wn_ T n (wn_ T n (wn_ T n (dn_ T n (wn_ T n a))))
                                · have e9 := gR_w (k := 1) (y := y) (by omega) cw9 nok10
                                  have hu : (pGift 1 T n (nb_ T n a) (wn_ T n a) y).1 = nb_ T n (wn_ T n (wn_ T n (dn_ T n (wn_ T n a)))) := (pg_R (by omega) (gT_x (by omega)) (gM_ok (hi := 9999) (by decide) eh c1n) okw8 cp (by rw [e9]; omega)).trans e9
                                  exact s_return dX9_giftLine_234 rfl (k _ (Or.inr ⟨⟨hG23, by rw [hs_ne _ (by omega), hs_ne _ (by omega), hs_ne _ (by omega), hs_ne _ (by omega), hs_ne _ (by omega), hs_ne _ (by omega)]; exact S.1.2.1, by rw [hs_ne _ (by omega), hs_ne _ (by omega), hs_ne _ (by omega), hs_ne _ (by omega), hs_ne _ (by omega), hs_ne _ (by omega)]; exact S.1.2.2.1, S.1.2.2.2.1, fun k p q => by rw [hs_ne _ (by omega), hs_ne _ (by omega), hs_ne _ (by omega), hs_ne _ (by omega), hs_ne _ (by omega), hs_ne _ (by omega)]; exact S.1.2.2.2.2 k p q⟩, fun x k p q => by rw [hs_ne _ (by omega), hs_ne _ (by omega), hs_ne _ (by omega), hs_ne _ (by omega), hs_ne _ (by omega), hs_ne _ (by omega)]; exact S.2.1 x k (by omega), by rw [hs_ne _ (by omega), hs_ne _ (by omega), hs_ne _ (by omega), hs_ne _ (by omega), hs_ne _ (by omega), hs_ne _ (by omega)]; exact S.2.2.1, _, by rw [hs_ne _ (by omega), hs_ne _ (by omega), hs_ne _ (by omega), hs_ne _ (by omega), hs_ne _ (by omega), hs_ne _ (by omega)]; exact S.2.2.2.1, S.2.2.2.2, okE_w cw9, hu⟩))
                                · have S : OK9 n T h (nb_ T n (wn_ T n (wn_ T n (dn_ T n (wn_ T n a))))) _ := ⟨S.1, S.2.1, S.2.2.1, Or.inl e16n, by have b := S.1.2.2.1; omega⟩
                                  exact s_return dX9_giftLine_234 rfl (k _ (Or.inl (lx_o (b := 0) S hG23 (fun x k p q => by rw [hs_ne _ (by omega), hs_ne _ (by omega), hs_ne _ (by omega), hs_ne _ (by omega), hs_ne _ (by omega), hs_ne _ (by omega)]) (pg_ok (by omega) (gT_x (by omega)) (gM_ok (hi := 9999) (by decide) eh c1n) okw8 cp (gR_n (by omega) cw9)) (ln_gift (g := y 0 2) (k := 1) (p := tP y T n (wn_ T n (dn_ T n (wn_ T n a)))) (t := -1) (m := dv_ T n (wn_ T n a)) (r := 4) P9 rfl (by omega) ⟨by omega, pb2, by omega, by omega, by omega, by omega, by omega, by omega, by omega⟩ (fun x j p q => by rw [hs_ne _ (by omega), hs_ne _ (by omega), hs_ne _ (by omega), hs_ne _ (by omega), hs_ne _ (by omega), hs_ne _ (by omega)]) (by rw [hs_ne _ (by omega), hs_ne _ (by omega), hs_ne _ (by omega), hs_ne _ (by omega), hs_ne _ (by omega), show 5 * y 0 2 + 0 = 5 * y 0 2 by omega, hs_eq]) (by rw [hs_ne _ (by omega), hs_ne _ (by omega), hs_ne _ (by omega), hs_ne _ (by omega), hs_eq]) (by rw [hs_ne _ (by omega), hs_ne _ (by omega), hs_ne _ (by omega), hs_eq]) (by rw [hs_ne _ (by omega), hs_ne _ (by omega), hs_eq]) (by rw [hs_ne _ (by omega), hs_eq]) (hs_eq _ _ _ _)))))
                              · exact absurd S.2.2.1 (b01_n.mp c14)
                            · exact absurd rfl c13
                      · exact absurd rfl c8
                    · have hG7 := W7.1.1
                      have hG := hG7
                      have W := W7
                      have cc := cc7
                      have hu : (pGift 1 T n (nb_ T n a) (wn_ T n a) y).1 = nb_ T n (wn_ T n (dn_ T n (wn_ T n a))) := pg_P (by omega) (gT_x (by omega)) (gM_ok (hi := 9999) (by decide) eh c1n) okw8 cc
                      refine s_istore dX9_giftLine_116 (by decide) rfl (L' := [_, _, _, _, _, _, _]) rfl ?_
                      refine s_iload_n dX9_giftLine_118 rfl ?_
                      refine s_iconst dX9_giftLine_119 ?_
                      refine s_icmp_eq (tgt := 128) dX9_giftLine_120 (by decide) (by first | exact hG7.2 _ _ | exact hG.2 _ _ | exact b01_in _ | assumption | exact ⟨by omega, by omega⟩) (by first | exact hG7.2 _ _ | exact hG.2 _ _ | exact b01_in _ | assumption | exact ⟨by omega, by omega⟩) (fun c15 => ?_) (fun c15 => ?_)
                      · refine s_iconst dX9_giftLine_128 ?_
                        refine s_goto (tgt := 133) dX9_giftLine_129 (by decide) ?_
                        refine s_istore dX9_giftLine_133 (by decide) rfl (L' := [_, _, _, _, _, _, _]) rfl ?_
                        refine s_iload dX9_giftLine_135 rfl ?_
                        refine s_iconst dX9_giftLine_137 ?_
                        refine s_icmp_ne (tgt := 158) dX9_giftLine_138 (by decide) (by first | exact hG7.2 _ _ | exact hG.2 _ _ | exact b01_in _ | assumption | exact ⟨by omega, by omega⟩) (by first | exact hG7.2 _ _ | exact hG.2 _ _ | exact b01_in _ | assumption | exact ⟨by omega, by omega⟩) (fun c16 => ?_) (fun c16 => ?_)
                        · exact absurd rfl c16
                        · refine s_aload_n dX9_giftLine_141 rfl ?_
                          refine s_ldcS (j := 10) (z := 1000 + ((24 + 10 : Nat) : Int)) dX9_giftLine_142 (by decide) rfl rfl (by decide) ?_
                          refine s_callV (d' := d - 1) (bc' := 0) (bs' := 0) (as := [_]) dX9_giftLine_144 vf_X9_134 (dd_ (by omega) (by decide)) ⟨Nat.zero_le _, Nat.zero_le _⟩ rfl rfl (Nat.le_of_ble_eq_true rfl) kl_7 rfl io_196 ?_
                          refine kw_X9_takesWord (by omega) W (fun hhG24 WhG24 => ?_)
                          have hG24 := WhG24.1.1
                          have hG := hG24
                          have W := WhG24
                          refine s_if_eq (tgt := 158) dX9_giftLine_147 (by decide) (by first | exact hG24.2 _ _ | exact hG.2 _ _ | exact b01_in _ | assumption | exact ⟨by omega, by omega⟩) (fun c17 => ?_) (fun c17 => ?_)
                          · refine s_aload_n dX9_giftLine_158 rfl ?_
                            refine s_callV (d' := d - 1) (bc' := 0) (bs' := 0) (as := []) dX9_giftLine_159 vf_X9_114 (dd_ (by omega) (by decide)) ⟨Nat.zero_le _, Nat.zero_le _⟩ rfl rfl (Nat.le_of_ble_eq_true rfl) kl_7 rfl io_196 ?_
                            refine c_X9_isWrong hG24 ?_
                            refine s_if_eq (tgt := 166) dX9_giftLine_162 (by decide) (by first | exact hG24.2 _ _ | exact hG.2 _ _ | exact b01_in _ | assumption | exact ⟨by omega, by omega⟩) (fun c18 => ?_) (fun c18 => ?_)
                            · exact absurd (wr_ne W) (b01_0.mp c18)
                            · have c18 := b01_n.mp c18
                              exact s_return dX9_giftLine_165 rfl (k _ (Or.inl (lx_w W hu)))
                          · exact absurd rfl c17
                      · exact absurd rfl c15
                  · have hG5 := W5.1.1
                    have hG := hG5
                    have W := W5
                    have cc : ¬ okW T n (dn_ T n (wn_ T n a)) 8 := fun q => cc5 ((iw_24 (j := 8) (by decide)).mpr q)
                    have hu : (pGift 1 T n (nb_ T n a) (wn_ T n a) y).1 = nb_ T n (dn_ T n (wn_ T n a)) := pg_W (by omega) (gT_x (by omega)) (gM_ok (hi := 9999) (by decide) eh c1n) cc
                    refine s_aload_n dX9_giftLine_112 rfl ?_
                    refine s_callV (d' := d - 1) (bc' := 0) (bs' := 0) (as := []) dX9_giftLine_113 vf_X9_233 (dd_ (by omega) (by decide)) ⟨Nat.zero_le _, Nat.zero_le _⟩ rfl rfl (Nat.le_of_ble_eq_true rfl) kl_7 rfl io_196 ?_
                    refine kw_X9_personHere (by omega) W P (fun hhG25 WhG25 => ?_)
                    have hG25 := WhG25.1.1
                    have hG := hG25
                    have W := WhG25
                    refine s_istore dX9_giftLine_116 (by decide) rfl (L' := [_, _, _, _, _, _, _]) rfl ?_
                    refine s_iload_n dX9_giftLine_118 rfl ?_
                    refine s_iconst dX9_giftLine_119 ?_
                    refine s_icmp_eq (tgt := 128) dX9_giftLine_120 (by decide) (by first | exact hG25.2 _ _ | exact hG.2 _ _ | exact b01_in _ | assumption | exact ⟨by omega, by omega⟩) (by first | exact hG25.2 _ _ | exact hG.2 _ _ | exact b01_in _ | assumption | exact ⟨by omega, by omega⟩) (fun c19 => ?_) (fun c19 => ?_)
                    · refine s_iconst dX9_giftLine_128 ?_
                      refine s_goto (tgt := 133) dX9_giftLine_129 (by decide) ?_
                      refine s_istore dX9_giftLine_133 (by decide) rfl (L' := [_, _, _, _, _, _, _]) rfl ?_
                      refine s_iload dX9_giftLine_135 rfl ?_
                      refine s_iconst dX9_giftLine_137 ?_
                      refine s_icmp_ne (tgt := 158) dX9_giftLine_138 (by decide) (by first | exact hG25.2 _ _ | exact hG.2 _ _ | exact b01_in _ | assumption | exact ⟨by omega, by omega⟩) (by first | exact hG25.2 _ _ | exact hG.2 _ _ | exact b01_in _ | assumption | exact ⟨by omega, by omega⟩) (fun c20 => ?_) (fun c20 => ?_)
                      · exact absurd rfl c20
                      · refine s_aload_n dX9_giftLine_141 rfl ?_
                        refine s_ldcS (j := 10) (z := 1000 + ((24 + 10 : Nat) : Int)) dX9_giftLine_142 (by decide) rfl rfl (by decide) ?_
                        refine s_callV (d' := d - 1) (bc' := 0) (bs' := 0) (as := [_]) dX9_giftLine_144 vf_X9_134 (dd_ (by omega) (by decide)) ⟨Nat.zero_le _, Nat.zero_le _⟩ rfl rfl (Nat.le_of_ble_eq_true rfl) kl_7 rfl io_196 ?_
                        refine kw_X9_takesWord (by omega) W (fun hhG26 WhG26 => ?_)
                        have hG26 := WhG26.1.1
                        have hG := hG26
                        have W := WhG26
                        refine s_if_eq (tgt := 158) dX9_giftLine_147 (by decide) (by first | exact hG26.2 _ _ | exact hG.2 _ _ | exact b01_in _ | assumption | exact ⟨by omega, by omega⟩) (fun c21 => ?_) (fun c21 => ?_)
                        · refine s_aload_n dX9_giftLine_158 rfl ?_
                          refine s_callV (d' := d - 1) (bc' := 0) (bs' := 0) (as := []) dX9_giftLine_159 vf_X9_114 (dd_ (by omega) (by decide)) ⟨Nat.zero_le _, Nat.zero_le _⟩ rfl rfl (Nat.le_of_ble_eq_true rfl) kl_7 rfl io_196 ?_
                          refine c_X9_isWrong hG26 ?_
                          refine s_if_eq (tgt := 166) dX9_giftLine_162 (by decide) (by first | exact hG26.2 _ _ | exact hG.2 _ _ | exact b01_in _ | assumption | exact ⟨by omega, by omega⟩) (fun c22 => ?_) (fun c22 => ?_)
                          · exact absurd (wr_ne W) (b01_0.mp c22)
                          · have c22 := b01_n.mp c22
                            exact s_return dX9_giftLine_165 rfl (k _ (Or.inl (lx_w W hu)))
                        · exact absurd rfl c21
                    · exact absurd rfl c19
                · have nb1 := nb_0 S
                  have hG3 := W3.1.1
                  have hG := hG3
                  have W := W3
                  have cc := cc3
                  have e9 := gM_no (k := 1) (hi := 9999) (y := y) (by decide) eh cc
                  have hu : (pGift 1 T n (nb_ T n a) (wn_ T n a) y).1 = nb_ T n (wn_ T n a) := (pg_M (by omega) (gT_x (by omega)) (by rw [e9]; omega)).trans e9
                  refine s_istore_n dX9_giftLine_105 (by decide) rfl (L' := [_, _, _, _, _, _, _]) rfl ?_
                  refine s_aload_n dX9_giftLine_106 rfl ?_
                  refine s_ldcS (j := 8) (z := 1000 + ((24 + 8 : Nat) : Int)) dX9_giftLine_107 (by decide) rfl rfl (by decide) ?_
                  refine s_callV (d' := d - 1) (bc' := 0) (bs' := 0) (as := [_]) dX9_giftLine_109 vf_X9_221 (dd_ (by omega) (by decide)) ⟨Nat.zero_le _, Nat.zero_le _⟩ rfl rfl (Nat.le_of_ble_eq_true rfl) kl_7 rfl io_196 ?_
                  refine kw_X9_must (by omega) W (fun hhG27 WhG27 => ?_)
                  have hG27 := WhG27.1.1
                  have hG := hG27
                  have W := WhG27
                  refine s_aload_n dX9_giftLine_112 rfl ?_
                  refine s_callV (d' := d - 1) (bc' := 0) (bs' := 0) (as := []) dX9_giftLine_113 vf_X9_233 (dd_ (by omega) (by decide)) ⟨Nat.zero_le _, Nat.zero_le _⟩ rfl rfl (Nat.le_of_ble_eq_true rfl) kl_7 rfl io_196 ?_
                  refine kw_X9_personHere (by omega) W P (fun hhG28 WhG28 => ?_)
                  have hG28 := WhG28.1.1
                  have hG := hG28
                  have W := WhG28
                  refine s_istore dX9_giftLine_116 (by decide) rfl (L' := [_, _, _, _, _, _, _]) rfl ?_
                  refine s_iload_n dX9_giftLine_118 rfl ?_
                  refine s_iconst dX9_giftLine_119 ?_
                  refine s_icmp_eq (tgt := 128) dX9_giftLine_120 (by decide) (by first | exact hG28.2 _ _ | exact hG.2 _ _ | exact b01_in _ | assumption | exact ⟨by omega, by omega⟩) (by first | exact hG28.2 _ _ | exact hG.2 _ _ | exact b01_in _ | assumption | exact ⟨by omega, by omega⟩) (fun c23 => ?_) (fun c23 => ?_)
                  · refine s_iconst dX9_giftLine_128 ?_
                    refine s_goto (tgt := 133) dX9_giftLine_129 (by decide) ?_
                    refine s_istore dX9_giftLine_133 (by decide) rfl (L' := [_, _, _, _, _, _, _]) rfl ?_
                    refine s_iload dX9_giftLine_135 rfl ?_
                    refine s_iconst dX9_giftLine_137 ?_
                    refine s_icmp_ne (tgt := 158) dX9_giftLine_138 (by decide) (by first | exact hG28.2 _ _ | exact hG.2 _ _ | exact b01_in _ | assumption | exact ⟨by omega, by omega⟩) (by first | exact hG28.2 _ _ | exact hG.2 _ _ | exact b01_in _ | assumption | exact ⟨by omega, by omega⟩) (fun c24 => ?_) (fun c24 => ?_)
                    · exact absurd rfl c24
                    · refine s_aload_n dX9_giftLine_141 rfl ?_
                      refine s_ldcS (j := 10) (z := 1000 + ((24 + 10 : Nat) : Int)) dX9_giftLine_142 (by decide) rfl rfl (by decide) ?_
                      refine s_callV (d' := d - 1) (bc' := 0) (bs' := 0) (as := [_]) dX9_giftLine_144 vf_X9_134 (dd_ (by omega) (by decide)) ⟨Nat.zero_le _, Nat.zero_le _⟩ rfl rfl (Nat.le_of_ble_eq_true rfl) kl_7 rfl io_196 ?_
                      refine kw_X9_takesWord (by omega) W (fun hhG29 WhG29 => ?_)
                      have hG29 := WhG29.1.1
                      have hG := hG29
                      have W := WhG29
                      refine s_if_eq (tgt := 158) dX9_giftLine_147 (by decide) (by first | exact hG29.2 _ _ | exact hG.2 _ _ | exact b01_in _ | assumption | exact ⟨by omega, by omega⟩) (fun c25 => ?_) (fun c25 => ?_)
                      · refine s_aload_n dX9_giftLine_158 rfl ?_
                        refine s_callV (d' := d - 1) (bc' := 0) (bs' := 0) (as := []) dX9_giftLine_159 vf_X9_114 (dd_ (by omega) (by decide)) ⟨Nat.zero_le _, Nat.zero_le _⟩ rfl rfl (Nat.le_of_ble_eq_true rfl) kl_7 rfl io_196 ?_
                        refine c_X9_isWrong hG29 ?_
                        refine s_if_eq (tgt := 166) dX9_giftLine_162 (by decide) (by first | exact hG29.2 _ _ | exact hG.2 _ _ | exact b01_in _ | assumption | exact ⟨by omega, by omega⟩) (fun c26 => ?_) (fun c26 => ?_)
                        · exact absurd (wr_ne W) (b01_0.mp c26)
                        · have c26 := b01_n.mp c26
                          exact s_return dX9_giftLine_165 rfl (k _ (Or.inl (lx_w W hu)))
                      · exact absurd rfl c25
                  · exact absurd rfl c23
              · exact absurd c7 (by decide)
            · exact absurd c6 (by decide)
          · exact absurd c5 (by decide)
        · exact absurd c4 (by decide)
    · exact absurd c2 (by decide)
  · refine s_aload_n dX9_giftLine_9 rfl ?_
    refine s_aload_n dX9_giftLine_10 rfl ?_
    refine s_geti dX9_giftLine_11 fl_X9_104 kl_7 (by decide) rfl io_196 (z := 16) rfl ?_
    rw [e16]
    refine s_callV (d' := d - 1) (bc' := 0) (bs' := 0) (as := [_]) dX9_giftLine_14 vf_X9_137 (dd_ (by omega) (by decide)) ⟨Nat.zero_le _, Nat.zero_le _⟩ rfl rfl (Nat.le_of_ble_eq_true rfl) kl_7 rfl io_196 ?_
    refine c_X9_wrong hG ⟨by omega, by omega⟩ (fun h30 g30 f30 w30 => ?_)
    have hG30 := g30
    have hG := hG30
    rw [if_pos S.2.2.1] at w30
    have W := wr_of S g30 (fun x y c => f30 x y (by omega)) (f30 _ _ (by omega)) w30 (by omega) (by omega)
    have hu : (pGift 1 T n (nb_ T n a) (wn_ T n a) y).1 = nb_ T n a := pg_full (by omega)
    refine s_aload_n dX9_giftLine_17 rfl ?_
    refine s_iload_n dX9_giftLine_18 rfl ?_
    refine s_if_ne (tgt := 27) dX9_giftLine_19 (by decide) (by first | exact hG30.2 _ _ | exact hG.2 _ _ | exact b01_in _ | assumption | exact ⟨by omega, by omega⟩) (fun c27 => ?_) (fun c27 => ?_)
    · refine s_iload_n dX9_giftLine_27 rfl ?_
      refine s_iconst dX9_giftLine_28 ?_
      refine s_icmp_ne (tgt := 37) dX9_giftLine_29 (by decide) (by first | exact hG30.2 _ _ | exact hG.2 _ _ | exact b01_in _ | assumption | exact ⟨by omega, by omega⟩) (by first | exact hG30.2 _ _ | exact hG.2 _ _ | exact b01_in _ | assumption | exact ⟨by omega, by omega⟩) (fun c28 => ?_) (fun c28 => ?_)
      · exact absurd rfl c28
      · refine s_ldcS (j := 9) (z := 1000 + ((24 + 9 : Nat) : Int)) dX9_giftLine_32 (by decide) rfl rfl (by decide) ?_
        refine s_goto (tgt := 49) dX9_giftLine_34 (by decide) ?_
        refine s_callV (d' := d - 1) (bc' := 0) (bs' := 0) (as := [_]) dX9_giftLine_49 vf_X9_221 (dd_ (by omega) (by decide)) ⟨Nat.zero_le _, Nat.zero_le _⟩ rfl rfl (Nat.le_of_ble_eq_true rfl) kl_7 rfl io_196 ?_
        refine kw_X9_must (by omega) W (fun hhG31 WhG31 => ?_)
        have hG31 := WhG31.1.1
        have hG := hG31
        have W := WhG31
        refine s_iload_n dX9_giftLine_52 rfl ?_
        refine s_if_ne (tgt := 64) dX9_giftLine_53 (by decide) (by first | exact hG31.2 _ _ | exact hG.2 _ _ | exact b01_in _ | assumption | exact ⟨by omega, by omega⟩) (fun c29 => ?_) (fun c29 => ?_)
        · refine s_iload_n dX9_giftLine_64 rfl ?_
          refine s_iconst dX9_giftLine_65 ?_
          refine s_icmp_ne (tgt := 77) dX9_giftLine_66 (by decide) (by first | exact hG31.2 _ _ | exact hG.2 _ _ | exact b01_in _ | assumption | exact ⟨by omega, by omega⟩) (by first | exact hG31.2 _ _ | exact hG.2 _ _ | exact b01_in _ | assumption | exact ⟨by omega, by omega⟩) (fun c30 => ?_) (fun c30 => ?_)
          · refine s_iconst dX9_giftLine_77 ?_
            refine s_istore_n dX9_giftLine_78 (by decide) rfl (L' := [_, _, _, _, _, _, _]) rfl ?_
            refine s_iload_n dX9_giftLine_79 rfl ?_
            refine s_if_ne (tgt := 87) dX9_giftLine_80 (by decide) (by first | exact hG31.2 _ _ | exact hG.2 _ _ | exact b01_in _ | assumption | exact ⟨by omega, by omega⟩) (fun c31 => ?_) (fun c31 => ?_)
            · refine s_aload_n dX9_giftLine_87 rfl ?_
              refine s_iconst dX9_giftLine_88 ?_
              refine s_iload_n dX9_giftLine_89 rfl ?_
              refine s_iconst dX9_giftLine_90 ?_
              refine s_icmp_ne (tgt := 99) dX9_giftLine_91 (by decide) (by first | exact hG31.2 _ _ | exact hG.2 _ _ | exact b01_in _ | assumption | exact ⟨by omega, by omega⟩) (by first | exact hG31.2 _ _ | exact hG.2 _ _ | exact b01_in _ | assumption | exact ⟨by omega, by omega⟩) (fun c32 => ?_) (fun c32 => ?_)
              · refine s_sipush dX9_giftLine_99 (by decide) ?_
                refine s_callV (d' := d - 1) (bc' := 0) (bs' := 0) (as := [_, _]) dX9_giftLine_102 vf_X9_229 (dd_ (by omega) (by decide)) ⟨Nat.zero_le _, Nat.zero_le _⟩ rfl rfl (Nat.le_of_ble_eq_true rfl) kl_7 rfl io_196 ?_
                refine kw_X9_number (by omega) W ?_
                refine s_istore_n dX9_giftLine_105 (by decide) rfl (L' := [_, _, _, _, _, _, _]) rfl ?_
                refine s_aload_n dX9_giftLine_106 rfl ?_
                refine s_ldcS (j := 8) (z := 1000 + ((24 + 8 : Nat) : Int)) dX9_giftLine_107 (by decide) rfl rfl (by decide) ?_
                refine s_callV (d' := d - 1) (bc' := 0) (bs' := 0) (as := [_]) dX9_giftLine_109 vf_X9_221 (dd_ (by omega) (by decide)) ⟨Nat.zero_le _, Nat.zero_le _⟩ rfl rfl (Nat.le_of_ble_eq_true rfl) kl_7 rfl io_196 ?_
                refine kw_X9_must (by omega) W (fun hhG32 WhG32 => ?_)
                have hG32 := WhG32.1.1
                have hG := hG32
                have W := WhG32
                refine s_aload_n dX9_giftLine_112 rfl ?_
                refine s_callV (d' := d - 1) (bc' := 0) (bs' := 0) (as := []) dX9_giftLine_113 vf_X9_233 (dd_ (by omega) (by decide)) ⟨Nat.zero_le _, Nat.zero_le _⟩ rfl rfl (Nat.le_of_ble_eq_true rfl) kl_7 rfl io_196 ?_
                refine kw_X9_personHere (by omega) W P (fun hhG33 WhG33 => ?_)
                have hG33 := WhG33.1.1
                have hG := hG33
                have W := WhG33
                refine s_istore dX9_giftLine_116 (by decide) rfl (L' := [_, _, _, _, _, _, _]) rfl ?_
                refine s_iload_n dX9_giftLine_118 rfl ?_
                refine s_iconst dX9_giftLine_119 ?_
                refine s_icmp_eq (tgt := 128) dX9_giftLine_120 (by decide) (by first | exact hG33.2 _ _ | exact hG.2 _ _ | exact b01_in _ | assumption | exact ⟨by omega, by omega⟩) (by first | exact hG33.2 _ _ | exact hG.2 _ _ | exact b01_in _ | assumption | exact ⟨by omega, by omega⟩) (fun c33 => ?_) (fun c33 => ?_)
                · refine s_iconst dX9_giftLine_128 ?_
                  refine s_goto (tgt := 133) dX9_giftLine_129 (by decide) ?_
                  refine s_istore dX9_giftLine_133 (by decide) rfl (L' := [_, _, _, _, _, _, _]) rfl ?_
                  refine s_iload dX9_giftLine_135 rfl ?_
                  refine s_iconst dX9_giftLine_137 ?_
                  refine s_icmp_ne (tgt := 158) dX9_giftLine_138 (by decide) (by first | exact hG33.2 _ _ | exact hG.2 _ _ | exact b01_in _ | assumption | exact ⟨by omega, by omega⟩) (by first | exact hG33.2 _ _ | exact hG.2 _ _ | exact b01_in _ | assumption | exact ⟨by omega, by omega⟩) (fun c34 => ?_) (fun c34 => ?_)
                  · exact absurd rfl c34
                  · refine s_aload_n dX9_giftLine_141 rfl ?_
                    refine s_ldcS (j := 10) (z := 1000 + ((24 + 10 : Nat) : Int)) dX9_giftLine_142 (by decide) rfl rfl (by decide) ?_
                    refine s_callV (d' := d - 1) (bc' := 0) (bs' := 0) (as := [_]) dX9_giftLine_144 vf_X9_134 (dd_ (by omega) (by decide)) ⟨Nat.zero_le _, Nat.zero_le _⟩ rfl rfl (Nat.le_of_ble_eq_true rfl) kl_7 rfl io_196 ?_
                    refine kw_X9_takesWord (by omega) W (fun hhG34 WhG34 => ?_)
                    have hG34 := WhG34.1.1
                    have hG := hG34
                    have W := WhG34
                    refine s_if_eq (tgt := 158) dX9_giftLine_147 (by decide) (by first | exact hG34.2 _ _ | exact hG.2 _ _ | exact b01_in _ | assumption | exact ⟨by omega, by omega⟩) (fun c35 => ?_) (fun c35 => ?_)
                    · refine s_aload_n dX9_giftLine_158 rfl ?_
                      refine s_callV (d' := d - 1) (bc' := 0) (bs' := 0) (as := []) dX9_giftLine_159 vf_X9_114 (dd_ (by omega) (by decide)) ⟨Nat.zero_le _, Nat.zero_le _⟩ rfl rfl (Nat.le_of_ble_eq_true rfl) kl_7 rfl io_196 ?_
                      refine c_X9_isWrong hG34 ?_
                      refine s_if_eq (tgt := 166) dX9_giftLine_162 (by decide) (by first | exact hG34.2 _ _ | exact hG.2 _ _ | exact b01_in _ | assumption | exact ⟨by omega, by omega⟩) (fun c36 => ?_) (fun c36 => ?_)
                      · exact absurd (wr_ne W) (b01_0.mp c36)
                      · have c36 := b01_n.mp c36
                        exact s_return dX9_giftLine_165 rfl (k _ (Or.inl (lx_w W hu)))
                    · exact absurd rfl c35
                · exact absurd rfl c33
              · exact absurd c32 (by decide)
            · exact absurd c31 (by decide)
          · exact absurd c30 (by decide)
        · exact absurd c29 (by decide)
    · exact absurd c27 (by decide)
set_option maxRecDepth 100000 in
set_option maxHeartbeats 4000000 in
theorem c2_X9_giftLine  (hd : 9 ≤ d) (S : OK9 n T h a h) (e16 : h 196 16 = nb_ T n a) (P : LN_ y h) (cw : iw_ T (nb_ T n a) (wl__ T n a) (24 + 11)) (k : ∀ h1 : PH, LY_ n T h (pGift 2 T n (nb_ T n a) (wn_ T n a) y) h1 → Q.1 none nN h1) : Cl_ yX9_giftLine MX9_giftLine d bc bs [(2, 196), (0, 2)] nN h Q := by
  refine s_enter pn_X9 rfl (Nat.le_of_ble_eq_true rfl) (L := [(2, _), (0, _), (9, 0), (9, 0), (9, 0), (9, 0), (9, 0)]) rfl ?_
  have hG := S.1.1
  have ab := ok_0 S
  have nb0 := nb_0 S
  have yc := ln_c P
  have wle : wl__ T n a = wn_ T n a - nb_ T n a := rfl
  have eh : (9999 : Int) = iC ((2 : Int) = 3) 9 9999 := (iC_f (by decide)).symm
  refine s_aload_n dX9_giftLine_0 rfl ?_
  refine s_geti dX9_giftLine_1 fl_X9_214 kl_7 (by decide) rfl io_196 (z := 21) rfl ?_
  rw [P.1.2.2]
  refine s_bipush dX9_giftLine_4 (by decide) ?_
  refine s_icmp_ne (tgt := 17) dX9_giftLine_6 (by decide) (by first | exact hG.2 _ _ | exact b01_in _ | assumption | exact ⟨by omega, by omega⟩) (by first | exact hG.2 _ _ | exact b01_in _ | assumption | exact ⟨by omega, by omega⟩) (fun c1 => ?_) (fun c1 => ?_)
  · refine s_aload_n dX9_giftLine_17 rfl ?_
    refine s_iload_n dX9_giftLine_18 rfl ?_
    refine s_if_ne (tgt := 27) dX9_giftLine_19 (by decide) (by first | exact hG.2 _ _ | exact b01_in _ | assumption | exact ⟨by omega, by omega⟩) (fun c2 => ?_) (fun c2 => ?_)
    · refine s_iload_n dX9_giftLine_27 rfl ?_
      refine s_iconst dX9_giftLine_28 ?_
      refine s_icmp_ne (tgt := 37) dX9_giftLine_29 (by decide) (by first | exact hG.2 _ _ | exact b01_in _ | assumption | exact ⟨by omega, by omega⟩) (by first | exact hG.2 _ _ | exact b01_in _ | assumption | exact ⟨by omega, by omega⟩) (fun c3 => ?_) (fun c3 => ?_)
      · refine s_iload_n dX9_giftLine_37 rfl ?_
        refine s_iconst dX9_giftLine_38 ?_
        refine s_icmp_ne (tgt := 47) dX9_giftLine_39 (by decide) (by first | exact hG.2 _ _ | exact b01_in _ | assumption | exact ⟨by omega, by omega⟩) (by first | exact hG.2 _ _ | exact b01_in _ | assumption | exact ⟨by omega, by omega⟩) (fun c4 => ?_) (fun c4 => ?_)
        · exact absurd rfl c4
        · refine s_ldcS (j := 11) (z := 1000 + ((24 + 11 : Nat) : Int)) dX9_giftLine_42 (by decide) rfl rfl (by decide) ?_
          refine s_goto (tgt := 49) dX9_giftLine_44 (by decide) ?_
          refine s_callV (d' := d - 1) (bc' := 0) (bs' := 0) (as := [_]) dX9_giftLine_49 vf_X9_221 (dd_ (by omega) (by decide)) ⟨Nat.zero_le _, Nat.zero_le _⟩ rfl rfl (Nat.le_of_ble_eq_true rfl) kl_7 rfl io_196 ?_
          refine c_X9_must (j := 24 + 11) (by decide) (by omega) S (fun cc1 h1 S1 e1 => ?_) (fun cc _ _ => absurd cw cc)
          have hG1 := S1.1.1
          have hG := hG1
          have S := S1
          have nb0 := nb_0 S
          refine s_iload_n dX9_giftLine_52 rfl ?_
          refine s_if_ne (tgt := 64) dX9_giftLine_53 (by decide) (by first | exact hG1.2 _ _ | exact hG.2 _ _ | exact b01_in _ | assumption | exact ⟨by omega, by omega⟩) (fun c5 => ?_) (fun c5 => ?_)
          · refine s_iload_n dX9_giftLine_64 rfl ?_
            refine s_iconst dX9_giftLine_65 ?_
            refine s_icmp_ne (tgt := 77) dX9_giftLine_66 (by decide) (by first | exact hG1.2 _ _ | exact hG.2 _ _ | exact b01_in _ | assumption | exact ⟨by omega, by omega⟩) (by first | exact hG1.2 _ _ | exact hG.2 _ _ | exact b01_in _ | assumption | exact ⟨by omega, by omega⟩) (fun c6 => ?_) (fun c6 => ?_)
            · exact absurd rfl c6
            · refine s_aload_n dX9_giftLine_69 rfl ?_
              refine s_iconst dX9_giftLine_70 ?_
              refine s_callV (d' := d - 1) (bc' := 0) (bs' := 0) (as := [_]) dX9_giftLine_71 vf_X9_236 (dd_ (by omega) (by decide)) ⟨Nat.zero_le _, Nat.zero_le _⟩ rfl rfl (Nat.le_of_ble_eq_true rfl) kl_7 rfl io_196 ?_
              refine c2_X9_thingHere (by omega) S P (fun cc2 h2 S2 e2 => ?_) (fun cc3 h3 W3 => ?_)
              · have hG2 := S2.1.1
                have hG := hG2
                have S := S2
                have nb0 := nb_0 S
                have mh := cc2
                have tb := tT_bd y T n (wn_ T n a)
                have tb2 : 0 ≤ tT y T n (wn_ T n a) ∧ tT y T n (wn_ T n a) < y 0 0 := by have q := mh.1; omega
                refine s_goto (tgt := 78) dX9_giftLine_74 (by decide) ?_
                refine s_istore_n dX9_giftLine_78 (by decide) rfl (L' := [_, _, _, _, _, _, _]) rfl ?_
                refine s_iload_n dX9_giftLine_79 rfl ?_
                refine s_if_ne (tgt := 87) dX9_giftLine_80 (by decide) (by first | exact hG2.2 _ _ | exact hG.2 _ _ | exact b01_in _ | assumption | exact ⟨by omega, by omega⟩) (fun c7 => ?_) (fun c7 => ?_)
                · refine s_aload_n dX9_giftLine_87 rfl ?_
                  refine s_iconst dX9_giftLine_88 ?_
                  refine s_iload_n dX9_giftLine_89 rfl ?_
                  refine s_iconst dX9_giftLine_90 ?_
                  refine s_icmp_ne (tgt := 99) dX9_giftLine_91 (by decide) (by first | exact hG2.2 _ _ | exact hG.2 _ _ | exact b01_in _ | assumption | exact ⟨by omega, by omega⟩) (by first | exact hG2.2 _ _ | exact hG.2 _ _ | exact b01_in _ | assumption | exact ⟨by omega, by omega⟩) (fun c8 => ?_) (fun c8 => ?_)
                  · refine s_sipush dX9_giftLine_99 (by decide) ?_
                    refine s_callV (d' := d - 1) (bc' := 0) (bs' := 0) (as := [_, _]) dX9_giftLine_102 vf_X9_229 (dd_ (by omega) (by decide)) ⟨Nat.zero_le _, Nat.zero_le _⟩ rfl rfl (Nat.le_of_ble_eq_true rfl) kl_7 rfl io_196 ?_
                    refine c_X9_number (by omega) S ⟨by decide, by decide⟩ ⟨by decide, by decide⟩ (fun cc4 h4 S4 e4 m4 => ?_) (fun cc5 h5 v5 W5 hv5 => ?_)
                    · have nb1 := nb_0 S
                      have hG4 := S4.1.1
                      have hG := hG4
                      have S := S4
                      have nb0 := nb_0 S
                      have c1n := cc4
                      have c1nb := cc4.2
                      refine s_istore_n dX9_giftLine_105 (by decide) rfl (L' := [_, _, _, _, _, _, _]) rfl ?_
                      refine s_aload_n dX9_giftLine_106 rfl ?_
                      refine s_ldcS (j := 8) (z := 1000 + ((24 + 8 : Nat) : Int)) dX9_giftLine_107 (by decide) rfl rfl (by decide) ?_
                      refine s_callV (d' := d - 1) (bc' := 0) (bs' := 0) (as := [_]) dX9_giftLine_109 vf_X9_221 (dd_ (by omega) (by decide)) ⟨Nat.zero_le _, Nat.zero_le _⟩ rfl rfl (Nat.le_of_ble_eq_true rfl) kl_7 rfl io_196 ?_
                      refine c_X9_must (j := 24 + 8) (by decide) (by omega) S (fun cc6 h6 S6 e6 => ?_) (fun cc7 h7 W7 => ?_)
                      · have hG6 := S6.1.1
                        have hG := hG6
                        have S := S6
                        have nb0 := nb_0 S
                        have okw8 : okW T n (dn_ T n (wn_ T n (wn_ T n a))) 8 := (iw_24 (j := 8) (by decide)).mp cc6
                        refine s_aload_n dX9_giftLine_112 rfl ?_
                        refine s_callV (d' := d - 1) (bc' := 0) (bs' := 0) (as := []) dX9_giftLine_113 vf_X9_233 (dd_ (by omega) (by decide)) ⟨Nat.zero_le _, Nat.zero_le _⟩ rfl rfl (Nat.le_of_ble_eq_true rfl) kl_7 rfl io_196 ?_
                        refine c_X9_personHere (by omega) S P (fun cc8 h8 S8 e8 => ?_) (fun cc9 h9 W9 => ?_)
                        · have hG8 := S8.1.1
                          have hG := hG8
                          have S := S8
                          have nb0 := nb_0 S
                          have cp := cc8
                          have pb := tP_bd y T n (wn_ T n (dn_ T n (wn_ T n (wn_ T n a))))
                          have pb2 : 0 ≤ tP y T n (wn_ T n (dn_ T n (wn_ T n (wn_ T n a)))) ∧ tP y T n (wn_ T n (dn_ T n (wn_ T n (wn_ T n a)))) < y 0 1 := by omega
                          refine s_istore dX9_giftLine_116 (by decide) rfl (L' := [_, _, _, _, _, _, _]) rfl ?_
                          refine s_iload_n dX9_giftLine_118 rfl ?_
                          refine s_iconst dX9_giftLine_119 ?_
                          refine s_icmp_eq (tgt := 128) dX9_giftLine_120 (by decide) (by first | exact hG8.2 _ _ | exact hG.2 _ _ | exact b01_in _ | assumption | exact ⟨by omega, by omega⟩) (by first | exact hG8.2 _ _ | exact hG.2 _ _ | exact b01_in _ | assumption | exact ⟨by omega, by omega⟩) (fun c9 => ?_) (fun c9 => ?_)
                          · exact absurd c9 (by decide)
                          · refine s_iload_n dX9_giftLine_123 rfl ?_
                            refine s_iconst dX9_giftLine_124 ?_
                            refine s_icmp_ne (tgt := 132) dX9_giftLine_125 (by decide) (by first | exact hG8.2 _ _ | exact hG.2 _ _ | exact b01_in _ | assumption | exact ⟨by omega, by omega⟩) (by first | exact hG8.2 _ _ | exact hG.2 _ _ | exact b01_in _ | assumption | exact ⟨by omega, by omega⟩) (fun c10 => ?_) (fun c10 => ?_)
                            · exact absurd rfl c10
                            · refine s_iconst dX9_giftLine_128 ?_
                              refine s_goto (tgt := 133) dX9_giftLine_129 (by decide) ?_
                              refine s_istore dX9_giftLine_133 (by decide) rfl (L' := [_, _, _, _, _, _, _]) rfl ?_
                              refine s_iload dX9_giftLine_135 rfl ?_
                              refine s_iconst dX9_giftLine_137 ?_
                              refine s_icmp_ne (tgt := 158) dX9_giftLine_138 (by decide) (by first | exact hG8.2 _ _ | exact hG.2 _ _ | exact b01_in _ | assumption | exact ⟨by omega, by omega⟩) (by first | exact hG8.2 _ _ | exact hG.2 _ _ | exact b01_in _ | assumption | exact ⟨by omega, by omega⟩) (fun c11 => ?_) (fun c11 => ?_)
                              · exact absurd rfl c11
                              · refine s_aload_n dX9_giftLine_141 rfl ?_
                                refine s_ldcS (j := 10) (z := 1000 + ((24 + 10 : Nat) : Int)) dX9_giftLine_142 (by decide) rfl rfl (by decide) ?_
                                refine s_callV (d' := d - 1) (bc' := 0) (bs' := 0) (as := [_]) dX9_giftLine_144 vf_X9_134 (dd_ (by omega) (by decide)) ⟨Nat.zero_le _, Nat.zero_le _⟩ rfl rfl (Nat.le_of_ble_eq_true rfl) kl_7 rfl io_196 ?_
                                refine c_X9_takesWord (j := 24 + 10) (by decide) (by omega) S (fun cc10 h10 S10 e10 => ?_) (fun cc11 h11 S11 e11 => ?_)
                                · have hG10 := S10.1.1
                                  have hG := hG10
                                  have S := S10
                                  have nb0 := nb_0 S
                                  have okw10 : okW T n (wn_ T n (wn_ T n (dn_ T n (wn_ T n (wn_ T n a))))) 10 := (iw_24 (j := 10) (by decide)).mp cc10
                                  refine s_if_eq (tgt := 158) dX9_giftLine_147 (by decide) (by first | exact hG10.2 _ _ | exact hG.2 _ _ | exact b01_in _ | assumption | exact ⟨by omega, by omega⟩) (fun c12 => ?_) (fun c12 => ?_)
                                  · exact absurd (show (1 : Int) = 0 from c12) (by decide)
                                  · refine s_aload_n dX9_giftLine_150 rfl ?_
                                    refine s_iconst dX9_giftLine_151 ?_
                                    refine s_iconst dX9_giftLine_152 ?_
                                    refine s_callV (d' := d - 1) (bc' := 0) (bs' := 0) (as := [_, _]) dX9_giftLine_153 vf_X9_229 (dd_ (by omega) (by decide)) ⟨Nat.zero_le _, Nat.zero_le _⟩ rfl rfl (Nat.le_of_ble_eq_true rfl) kl_7 rfl io_196 ?_
                                    refine c_X9_number (by omega) S ⟨by decide, by decide⟩ ⟨by decide, by decide⟩ (fun cc12 h12 S12 e12 m12 => ?_) (fun cc13 h13 v13 W13 hv13 => ?_)
                                    · have nb1 := nb_0 S
                                      have hG12 := S12.1.1
                                      have hG := hG12
                                      have S := S12
                                      have nb0 := nb_0 S
                                      have c2n := cc12
                                      have c2nb := cc12.2
                                      refine s_istore dX9_giftLine_156 (by decide) rfl (L' := [_, _, _, _, _, _, _]) rfl ?_
                                      refine s_aload_n dX9_giftLine_158 rfl ?_
                                      refine s_callV (d' := d - 1) (bc' := 0) (bs' := 0) (as := []) dX9_giftLine_159 vf_X9_114 (dd_ (by omega) (by decide)) ⟨Nat.zero_le _, Nat.zero_le _⟩ rfl rfl (Nat.le_of_ble_eq_true rfl) kl_7 rfl io_196 ?_
                                      refine c_X9_isWrong hG12 ?_
                                      refine s_if_eq (tgt := 166) dX9_giftLine_162 (by decide) (by first | exact hG12.2 _ _ | exact hG.2 _ _ | exact b01_in _ | assumption | exact ⟨by omega, by omega⟩) (fun c13 => ?_) (fun c13 => ?_)
                                      · have c13 := b01_0.mp c13
                                        refine s_iconst dX9_giftLine_166 ?_
                                        refine s_aload_n dX9_giftLine_167 rfl ?_
                                        refine s_geti dX9_giftLine_168 fl_X9_214 kl_7 (by decide) rfl io_196 (z := 21) rfl ?_
                                        have P9 := ln_aw P S.2.1
                                        rw [P9.1.2.2]
                                        refine s_imul dX9_giftLine_171 ?_
                                        refine s_istore dX9_giftLine_172 (by decide) rfl (L' := [_, _, _, _, _, _, _]) rfl ?_
                                        refine s_aload_n dX9_giftLine_174 rfl ?_
                                        refine s_getr dX9_giftLine_175 fl_X9_58 kl_7 (by decide) rfl io_196 (z := 27) rfl (rf_7_27 hG12.1 io_196) (rk_7_27 io_196).1 ?_
                                        refine s_iload dX9_giftLine_178 rfl ?_
                                        refine s_iload_n dX9_giftLine_180 rfl ?_
                                        refine s_iastoreG dX9_giftLine_181 (rk_7_27 io_196) (by omega) (by omega) hG12 (by first | exact hG12.2 _ _ | exact hG.2 _ _ | exact b01_in _ | assumption | exact ⟨by omega, by omega⟩) (fun hG14 => ?_)
                                        refine s_aload_n dX9_giftLine_182 rfl ?_
                                        refine s_getr dX9_giftLine_183 fl_X9_58 kl_7 (by decide) rfl io_196 (z := 27) rfl (rf_7_27 hG14.1 io_196) (rk_7_27 io_196).1 ?_
                                        refine s_iload dX9_giftLine_186 rfl ?_
                                        refine s_iconst dX9_giftLine_188 ?_
                                        refine s_iadd dX9_giftLine_189 ?_
                                        refine s_iload dX9_giftLine_190 rfl ?_
                                        refine s_iastoreG dX9_giftLine_192 (rk_7_27 io_196) (by omega) (by omega) hG14 (by first | exact hG14.2 _ _ | exact hG.2 _ _ | exact b01_in _ | assumption | exact ⟨by omega, by omega⟩) (fun hG15 => ?_)
                                        refine s_aload_n dX9_giftLine_193 rfl ?_
                                        refine s_getr dX9_giftLine_194 fl_X9_58 kl_7 (by decide) rfl io_196 (z := 27) rfl (rf_7_27 hG15.1 io_196) (rk_7_27 io_196).1 ?_
                                        refine s_iload dX9_giftLine_197 rfl ?_
                                        refine s_iconst dX9_giftLine_199 ?_
                                        refine s_iadd dX9_giftLine_200 ?_
                                        refine s_iload_n dX9_giftLine_201 rfl ?_
                                        refine s_iastoreG dX9_giftLine_202 (rk_7_27 io_196) (by omega) (by omega) hG15 (by first | exact hG15.2 _ _ | exact hG.2 _ _ | exact b01_in _ | assumption | exact ⟨by omega, by omega⟩) (fun hG16 => ?_)
                                        refine s_aload_n dX9_giftLine_203 rfl ?_
                                        refine s_getr dX9_giftLine_204 fl_X9_58 kl_7 (by decide) rfl io_196 (z := 27) rfl (rf_7_27 hG16.1 io_196) (rk_7_27 io_196).1 ?_
                                        refine s_iload dX9_giftLine_207 rfl ?_
                                        refine s_iconst dX9_giftLine_209 ?_
                                        refine s_iadd dX9_giftLine_210 ?_
                                        refine s_iload_n dX9_giftLine_211 rfl ?_
                                        refine s_iastoreG dX9_giftLine_212 (rk_7_27 io_196) (by omega) (by omega) hG16 (by first | exact hG16.2 _ _ | exact hG.2 _ _ | exact b01_in _ | assumption | exact ⟨by omega, by omega⟩) (fun hG17 => ?_)
                                        refine s_aload_n dX9_giftLine_213 rfl ?_
                                        refine s_getr dX9_giftLine_214 fl_X9_58 kl_7 (by decide) rfl io_196 (z := 27) rfl (rf_7_27 hG17.1 io_196) (rk_7_27 io_196).1 ?_
                                        refine s_iload dX9_giftLine_217 rfl ?_
                                        refine s_iconst dX9_giftLine_219 ?_
                                        refine s_iadd dX9_giftLine_220 ?_
                                        refine s_iload dX9_giftLine_221 rfl ?_
                                        refine s_iastoreG dX9_giftLine_223 (rk_7_27 io_196) (by omega) (by omega) hG17 (by first | exact hG17.2 _ _ | exact hG.2 _ _ | exact b01_in _ | assumption | exact ⟨by omega, by omega⟩) (fun hG18 => ?_)
                                        refine s_aload_n dX9_giftLine_224 rfl ?_
                                        refine s_dup dX9_giftLine_225 rfl ?_
                                        refine s_geti dX9_giftLine_226 fl_X9_214 kl_7 (by decide) rfl io_196 (z := 21) rfl ?_
                                        rw [hs_ne _ (by omega), hs_ne _ (by omega), hs_ne _ (by omega), hs_ne _ (by omega), hs_ne _ (by omega), P9.1.2.2]
                                        refine s_iconst dX9_giftLine_229 ?_
                                        refine s_iadd dX9_giftLine_230 ?_
                                        refine s_putiG 21 dX9_giftLine_231 fl_X9_214 kl_7 (by decide) rfl rfl io_196 (z := 21) rfl (by decide +kernel) hG18 (by first | exact hG18.2 _ _ | exact hG.2 _ _ | exact b01_in _ | assumption | exact ⟨by omega, by omega⟩) (fun hG19 => ?_)
                                        exact s_return dX9_giftLine_234 rfl (k _ (Or.inl (lx_o (b := 0) S hG19 (fun x k p q => by rw [hs_ne _ (by omega), hs_ne _ (by omega), hs_ne _ (by omega), hs_ne _ (by omega), hs_ne _ (by omega), hs_ne _ (by omega)]) (pg_ok (by omega) (gT_ok (v := 2) (by omega) mh) (gM_ok (hi := 9999) (by decide) eh c1n) okw8 cp (gR_ok (by omega) okw10 c2n)) (ln_gift (g := y 0 2) (k := 2) (p := tP y T n (wn_ T n (dn_ T n (wn_ T n (wn_ T n a))))) (t := tT y T n (wn_ T n a)) (m := dv_ T n (wn_ T n (wn_ T n a))) (r := dv_ T n (wn_ T n (wn_ T n (wn_ T n (dn_ T n (wn_ T n (wn_ T n a))))))) P9 rfl (by omega) ⟨by omega, pb2, by omega, by omega, by omega, by omega, by omega, by omega, by omega⟩ (fun x j p q => by rw [hs_ne _ (by omega), hs_ne _ (by omega), hs_ne _ (by omega), hs_ne _ (by omega), hs_ne _ (by omega), hs_ne _ (by omega)]) (by rw [hs_ne _ (by omega), hs_ne _ (by omega), hs_ne _ (by omega), hs_ne _ (by omega), hs_ne _ (by omega), show 5 * y 0 2 + 0 = 5 * y 0 2 by omega, hs_eq]) (by rw [hs_ne _ (by omega), hs_ne _ (by omega), hs_ne _ (by omega), hs_ne _ (by omega), hs_eq]) (by rw [hs_ne _ (by omega), hs_ne _ (by omega), hs_ne _ (by omega), hs_eq]) (by rw [hs_ne _ (by omega), hs_ne _ (by omega), hs_eq]) (by rw [hs_ne _ (by omega), hs_eq]) (hs_eq _ _ _ _)))))
                                      · exact absurd S.2.2.1 (b01_n.mp c13)
                                    · have nb1 := nb_0 S
                                      have hG13 := W13.1.1
                                      have hG := hG13
                                      have W := W13
                                      have cc := cc13
                                      have e9 := gR_no (k := 2) (y := y) (by omega) okw10 cc
                                      have hu : (pGift 2 T n (nb_ T n a) (wn_ T n a) y).1 = nb_ T n (wn_ T n (wn_ T n (wn_ T n (dn_ T n (wn_ T n (wn_ T n a)))))) := (pg_R (by omega) (gT_ok (v := 2) (by omega) mh) (gM_ok (hi := 9999) (by decide) eh c1n) okw8 cp (by rw [e9]; omega)).trans e9
                                      refine s_istore dX9_giftLine_156 (by decide) rfl (L' := [_, _, _, _, _, _, _]) rfl ?_
                                      refine s_aload_n dX9_giftLine_158 rfl ?_
                                      refine s_callV (d' := d - 1) (bc' := 0) (bs' := 0) (as := []) dX9_giftLine_159 vf_X9_114 (dd_ (by omega) (by decide)) ⟨Nat.zero_le _, Nat.zero_le _⟩ rfl rfl (Nat.le_of_ble_eq_true rfl) kl_7 rfl io_196 ?_
                                      refine c_X9_isWrong hG13 ?_
                                      refine s_if_eq (tgt := 166) dX9_giftLine_162 (by decide) (by first | exact hG13.2 _ _ | exact hG.2 _ _ | exact b01_in _ | assumption | exact ⟨by omega, by omega⟩) (fun c14 => ?_) (fun c14 => ?_)
                                      · exact absurd (wr_ne W) (b01_0.mp c14)
                                      · have c14 := b01_n.mp c14
                                        exact s_return dX9_giftLine_165 rfl (k _ (Or.inl (lx_w W hu)))
                                · have hG11 := S11.1.1
                                  have hG := hG11
                                  have S := S11
                                  have nb0 := nb_0 S
                                  have nok10 : ¬ okW T n (wn_ T n (wn_ T n (dn_ T n (wn_ T n (wn_ T n a))))) 10 := fun q => cc11 ((iw_24 (j := 10) (by decide)).mpr q)
                                  have e16n := e11
                                  refine s_if_eq (tgt := 158) dX9_giftLine_147 (by decide) (by first | exact hG11.2 _ _ | exact hG.2 _ _ | exact b01_in _ | assumption | exact ⟨by omega, by omega⟩) (fun c15 => ?_) (fun c15 => ?_)
                                  · refine s_aload_n dX9_giftLine_158 rfl ?_
                                    refine s_callV (d' := d - 1) (bc' := 0) (bs' := 0) (as := []) dX9_giftLine_159 vf_X9_114 (dd_ (by omega) (by decide)) ⟨Nat.zero_le _, Nat.zero_le _⟩ rfl rfl (Nat.le_of_ble_eq_true rfl) kl_7 rfl io_196 ?_
                                    refine c_X9_isWrong hG11 ?_
                                    refine s_if_eq (tgt := 166) dX9_giftLine_162 (by decide) (by first | exact hG11.2 _ _ | exact hG.2 _ _ | exact b01_in _ | assumption | exact ⟨by omega, by omega⟩) (fun c16 => ?_) (fun c16 => ?_)
                                    · have c16 := b01_0.mp c16
                                      refine s_iconst dX9_giftLine_166 ?_
                                      refine s_aload_n dX9_giftLine_167 rfl ?_
                                      refine s_geti dX9_giftLine_168 fl_X9_214 kl_7 (by decide) rfl io_196 (z := 21) rfl ?_
                                      have P9 := ln_aw P S.2.1
                                      rw [P9.1.2.2]
                                      refine s_imul dX9_giftLine_171 ?_
                                      refine s_istore dX9_giftLine_172 (by decide) rfl (L' := [_, _, _, _, _, _, _]) rfl ?_
                                      refine s_aload_n dX9_giftLine_174 rfl ?_
                                      refine s_getr dX9_giftLine_175 fl_X9_58 kl_7 (by decide) rfl io_196 (z := 27) rfl (rf_7_27 hG11.1 io_196) (rk_7_27 io_196).1 ?_
                                      refine s_iload dX9_giftLine_178 rfl ?_
                                      refine s_iload_n dX9_giftLine_180 rfl ?_
                                      refine s_iastoreG dX9_giftLine_181 (rk_7_27 io_196) (by omega) (by omega) hG11 (by first | exact hG11.2 _ _ | exact hG.2 _ _ | exact b01_in _ | assumption | exact ⟨by omega, by omega⟩) (fun hG20 => ?_)
                                      refine s_aload_n dX9_giftLine_182 rfl ?_
                                      refine s_getr dX9_giftLine_183 fl_X9_58 kl_7 (by decide) rfl io_196 (z := 27) rfl (rf_7_27 hG20.1 io_196) (rk_7_27 io_196).1 ?_
                                      refine s_iload dX9_giftLine_186 rfl ?_
                                      refine s_iconst dX9_giftLine_188 ?_
                                      refine s_iadd dX9_giftLine_189 ?_
                                      refine s_iload dX9_giftLine_190 rfl ?_
                                      refine s_iastoreG dX9_giftLine_192 (rk_7_27 io_196) (by omega) (by omega) hG20 (by first | exact hG20.2 _ _ | exact hG.2 _ _ | exact b01_in _ | assumption | exact ⟨by omega, by omega⟩) (fun hG21 => ?_)
                                      refine s_aload_n dX9_giftLine_193 rfl ?_
                                      refine s_getr dX9_giftLine_194 fl_X9_58 kl_7 (by decide) rfl io_196 (z := 27) rfl (rf_7_27 hG21.1 io_196) (rk_7_27 io_196).1 ?_
                                      refine s_iload dX9_giftLine_197 rfl ?_
                                      refine s_iconst dX9_giftLine_199 ?_
                                      refine s_iadd dX9_giftLine_200 ?_
                                      refine s_iload_n dX9_giftLine_201 rfl ?_
                                      refine s_iastoreG dX9_giftLine_202 (rk_7_27 io_196) (by omega) (by omega) hG21 (by first | exact hG21.2 _ _ | exact hG.2 _ _ | exact b01_in _ | assumption | exact ⟨by omega, by omega⟩) (fun hG22 => ?_)
                                      refine s_aload_n dX9_giftLine_203 rfl ?_
                                      refine s_getr dX9_giftLine_204 fl_X9_58 kl_7 (by decide) rfl io_196 (z := 27) rfl (rf_7_27 hG22.1 io_196) (rk_7_27 io_196).1 ?_
                                      refine s_iload dX9_giftLine_207 rfl ?_
                                      refine s_iconst dX9_giftLine_209 ?_
                                      refine s_iadd dX9_giftLine_210 ?_
                                      refine s_iload_n dX9_giftLine_211 rfl ?_
                                      refine s_iastoreG dX9_giftLine_212 (rk_7_27 io_196) (by omega) (by omega) hG22 (by first | exact hG22.2 _ _ | exact hG.2 _ _ | exact b01_in _ | assumption | exact ⟨by omega, by omega⟩) (fun hG23 => ?_)
                                      refine s_aload_n dX9_giftLine_213 rfl ?_
                                      refine s_getr dX9_giftLine_214 fl_X9_58 kl_7 (by decide) rfl io_196 (z := 27) rfl (rf_7_27 hG23.1 io_196) (rk_7_27 io_196).1 ?_
                                      refine s_iload dX9_giftLine_217 rfl ?_
                                      refine s_iconst dX9_giftLine_219 ?_
                                      refine s_iadd dX9_giftLine_220 ?_
                                      refine s_iload dX9_giftLine_221 rfl ?_
                                      refine s_iastoreG dX9_giftLine_223 (rk_7_27 io_196) (by omega) (by omega) hG23 (by first | exact hG23.2 _ _ | exact hG.2 _ _ | exact b01_in _ | assumption | exact ⟨by omega, by omega⟩) (fun hG24 => ?_)
                                      refine s_aload_n dX9_giftLine_224 rfl ?_
                                      refine s_dup dX9_giftLine_225 rfl ?_
                                      refine s_geti dX9_giftLine_226 fl_X9_214 kl_7 (by decide) rfl io_196 (z := 21) rfl ?_
                                      rw [hs_ne _ (by omega), hs_ne _ (by omega), hs_ne _ (by omega), hs_ne _ (by omega), hs_ne _ (by omega), P9.1.2.2]
                                      refine s_iconst dX9_giftLine_229 ?_
                                      refine s_iadd dX9_giftLine_230 ?_
                                      refine s_putiG 21 dX9_giftLine_231 fl_X9_214 kl_7 (by decide) rfl rfl io_196 (z := 21) rfl (by decide +kernel) hG24 (by first | exact hG24.2 _ _ | exact hG.2 _ _ | exact b01_in _ | assumption | exact ⟨by omega, by omega⟩) (fun hG25 => ?_)
                                      by_cases cw9 : nb_ T n (wn_ T n (wn_ T n (dn_ T n (wn_ T n (wn_ T n a))))) < wn_ T n (wn_ T n (wn_ T n (dn_ T n (wn_ T n (wn_ T n a)))))
                                      · have e9 := gR_w (k := 2) (y := y) (by omega) cw9 nok10
                                        have hu : (pGift 2 T n (nb_ T n a) (wn_ T n a) y).1 = nb_ T n (wn_ T n (wn_ T n (dn_ T n (wn_ T n (wn_ T n a))))) := (pg_R (by omega) (gT_ok (v := 2) (by omega) mh) (gM_ok (hi := 9999) (by decide) eh c1n) okw8 cp (by rw [e9]; omega)).trans e9
                                        exact s_return dX9_giftLine_234 rfl (k _ (Or.inr ⟨⟨hG25, by rw [hs_ne _ (by omega), hs_ne _ (by omega), hs_ne _ (by omega), hs_ne _ (by omega), hs_ne _ (by omega), hs_ne _ (by omega)]; exact S.1.2.1, by rw [hs_ne _ (by omega), hs_ne _ (by omega), hs_ne _ (by omega), hs_ne _ (by omega), hs_ne _ (by omega), hs_ne _ (by omega)]; exact S.1.2.2.1, S.1.2.2.2.1, fun k p q => by rw [hs_ne _ (by omega), hs_ne _ (by omega), hs_ne _ (by omega), hs_ne _ (by omega), hs_ne _ (by omega), hs_ne _ (by omega)]; exact S.1.2.2.2.2 k p q⟩, fun x k p q => by rw [hs_ne _ (by omega), hs_ne _ (by omega), hs_ne _ (by omega), hs_ne _ (by omega), hs_ne _ (by omega), hs_ne _ (by omega)]; exact S.2.1 x k (by omega), by rw [hs_ne _ (by omega), hs_ne _ (by omega), hs_ne _ (by omega), hs_ne _ (by omega), hs_ne _ (by omega), hs_ne _ (by omega)]; exact S.2.2.1, _, by rw [hs_ne _ (by omega), hs_ne _ (by omega), hs_ne _ (by omega), hs_ne _ (by omega), hs_ne _ (by omega), hs_ne _ (by omega)]; exact S.2.2.2.1, S.2.2.2.2, okE_w cw9, hu⟩))
                                      · have S : OK9 n T h (nb_ T n (wn_ T n (wn_ T n (dn_ T n (wn_ T n (wn_ T n a)))))) _ := ⟨S.1, S.2.1, S.2.2.1, Or.inl e16n, by have b := S.1.2.2.1; omega⟩
                                        exact s_return dX9_giftLine_234 rfl (k _ (Or.inl (lx_o (b := 0) S hG25 (fun x k p q => by rw [hs_ne _ (by omega), hs_ne _ (by omega), hs_ne _ (by omega), hs_ne _ (by omega), hs_ne _ (by omega), hs_ne _ (by omega)]) (pg_ok (by omega) (gT_ok (v := 2) (by omega) mh) (gM_ok (hi := 9999) (by decide) eh c1n) okw8 cp (gR_n (by omega) cw9)) (ln_gift (g := y 0 2) (k := 2) (p := tP y T n (wn_ T n (dn_ T n (wn_ T n (wn_ T n a))))) (t := tT y T n (wn_ T n a)) (m := dv_ T n (wn_ T n (wn_ T n a))) (r := 4) P9 rfl (by omega) ⟨by omega, pb2, by omega, by omega, by omega, by omega, by omega, by omega, by omega⟩ (fun x j p q => by rw [hs_ne _ (by omega), hs_ne _ (by omega), hs_ne _ (by omega), hs_ne _ (by omega), hs_ne _ (by omega), hs_ne _ (by omega)]) (by rw [hs_ne _ (by omega), hs_ne _ (by omega), hs_ne _ (by omega), hs_ne _ (by omega), hs_ne _ (by omega), show 5 * y 0 2 + 0 = 5 * y 0 2 by omega, hs_eq]) (by rw [hs_ne _ (by omega), hs_ne _ (by omega), hs_ne _ (by omega), hs_ne _ (by omega), hs_eq]) (by rw [hs_ne _ (by omega), hs_ne _ (by omega), hs_ne _ (by omega), hs_eq]) (by rw [hs_ne _ (by omega), hs_ne _ (by omega), hs_eq]) (by rw [hs_ne _ (by omega), hs_eq]) (hs_eq _ _ _ _)))))
                                    · exact absurd S.2.2.1 (b01_n.mp c16)
                                  · exact absurd rfl c15
                        · have hG9 := W9.1.1
                          have hG := hG9
                          have W := W9
                          have cc := cc9
                          have hu : (pGift 2 T n (nb_ T n a) (wn_ T n a) y).1 = nb_ T n (wn_ T n (dn_ T n (wn_ T n (wn_ T n a)))) := pg_P (by omega) (gT_ok (v := 2) (by omega) mh) (gM_ok (hi := 9999) (by decide) eh c1n) okw8 cc
                          refine s_istore dX9_giftLine_116 (by decide) rfl (L' := [_, _, _, _, _, _, _]) rfl ?_
                          refine s_iload_n dX9_giftLine_118 rfl ?_
                          refine s_iconst dX9_giftLine_119 ?_
                          refine s_icmp_eq (tgt := 128) dX9_giftLine_120 (by decide) (by first | exact hG9.2 _ _ | exact hG.2 _ _ | exact b01_in _ | assumption | exact ⟨by omega, by omega⟩) (by first | exact hG9.2 _ _ | exact hG.2 _ _ | exact b01_in _ | assumption | exact ⟨by omega, by omega⟩) (fun c17 => ?_) (fun c17 => ?_)
                          · exact absurd c17 (by decide)
                          · refine s_iload_n dX9_giftLine_123 rfl ?_
                            refine s_iconst dX9_giftLine_124 ?_
                            refine s_icmp_ne (tgt := 132) dX9_giftLine_125 (by decide) (by first | exact hG9.2 _ _ | exact hG.2 _ _ | exact b01_in _ | assumption | exact ⟨by omega, by omega⟩) (by first | exact hG9.2 _ _ | exact hG.2 _ _ | exact b01_in _ | assumption | exact ⟨by omega, by omega⟩) (fun c18 => ?_) (fun c18 => ?_)
                            · exact absurd rfl c18
                            · refine s_iconst dX9_giftLine_128 ?_
                              refine s_goto (tgt := 133) dX9_giftLine_129 (by decide) ?_
                              refine s_istore dX9_giftLine_133 (by decide) rfl (L' := [_, _, _, _, _, _, _]) rfl ?_
                              refine s_iload dX9_giftLine_135 rfl ?_
                              refine s_iconst dX9_giftLine_137 ?_
                              refine s_icmp_ne (tgt := 158) dX9_giftLine_138 (by decide) (by first | exact hG9.2 _ _ | exact hG.2 _ _ | exact b01_in _ | assumption | exact ⟨by omega, by omega⟩) (by first | exact hG9.2 _ _ | exact hG.2 _ _ | exact b01_in _ | assumption | exact ⟨by omega, by omega⟩) (fun c19 => ?_) (fun c19 => ?_)
                              · exact absurd rfl c19
                              · refine s_aload_n dX9_giftLine_141 rfl ?_
                                refine s_ldcS (j := 10) (z := 1000 + ((24 + 10 : Nat) : Int)) dX9_giftLine_142 (by decide) rfl rfl (by decide) ?_
                                refine s_callV (d' := d - 1) (bc' := 0) (bs' := 0) (as := [_]) dX9_giftLine_144 vf_X9_134 (dd_ (by omega) (by decide)) ⟨Nat.zero_le _, Nat.zero_le _⟩ rfl rfl (Nat.le_of_ble_eq_true rfl) kl_7 rfl io_196 ?_
                                refine kw_X9_takesWord (by omega) W (fun hhG26 WhG26 => ?_)
                                have hG26 := WhG26.1.1
                                have hG := hG26
                                have W := WhG26
                                refine s_if_eq (tgt := 158) dX9_giftLine_147 (by decide) (by first | exact hG26.2 _ _ | exact hG.2 _ _ | exact b01_in _ | assumption | exact ⟨by omega, by omega⟩) (fun c20 => ?_) (fun c20 => ?_)
                                · refine s_aload_n dX9_giftLine_158 rfl ?_
                                  refine s_callV (d' := d - 1) (bc' := 0) (bs' := 0) (as := []) dX9_giftLine_159 vf_X9_114 (dd_ (by omega) (by decide)) ⟨Nat.zero_le _, Nat.zero_le _⟩ rfl rfl (Nat.le_of_ble_eq_true rfl) kl_7 rfl io_196 ?_
                                  refine c_X9_isWrong hG26 ?_
                                  refine s_if_eq (tgt := 166) dX9_giftLine_162 (by decide) (by first | exact hG26.2 _ _ | exact hG.2 _ _ | exact b01_in _ | assumption | exact ⟨by omega, by omega⟩) (fun c21 => ?_) (fun c21 => ?_)
                                  · exact absurd (wr_ne W) (b01_0.mp c21)
                                  · have c21 := b01_n.mp c21
                                    exact s_return dX9_giftLine_165 rfl (k _ (Or.inl (lx_w W hu)))
                                · exact absurd rfl c20
                      · have hG7 := W7.1.1
                        have hG := hG7
                        have W := W7
                        have cc : ¬ okW T n (dn_ T n (wn_ T n (wn_ T n a))) 8 := fun q => cc7 ((iw_24 (j := 8) (by decide)).mpr q)
                        have hu : (pGift 2 T n (nb_ T n a) (wn_ T n a) y).1 = nb_ T n (dn_ T n (wn_ T n (wn_ T n a))) := pg_W (by omega) (gT_ok (v := 2) (by omega) mh) (gM_ok (hi := 9999) (by decide) eh c1n) cc
                        refine s_aload_n dX9_giftLine_112 rfl ?_
                        refine s_callV (d' := d - 1) (bc' := 0) (bs' := 0) (as := []) dX9_giftLine_113 vf_X9_233 (dd_ (by omega) (by decide)) ⟨Nat.zero_le _, Nat.zero_le _⟩ rfl rfl (Nat.le_of_ble_eq_true rfl) kl_7 rfl io_196 ?_
                        refine kw_X9_personHere (by omega) W P (fun hhG27 WhG27 => ?_)
                        have hG27 := WhG27.1.1
                        have hG := hG27
                        have W := WhG27
                        refine s_istore dX9_giftLine_116 (by decide) rfl (L' := [_, _, _, _, _, _, _]) rfl ?_
                        refine s_iload_n dX9_giftLine_118 rfl ?_
                        refine s_iconst dX9_giftLine_119 ?_
                        refine s_icmp_eq (tgt := 128) dX9_giftLine_120 (by decide) (by first | exact hG27.2 _ _ | exact hG.2 _ _ | exact b01_in _ | assumption | exact ⟨by omega, by omega⟩) (by first | exact hG27.2 _ _ | exact hG.2 _ _ | exact b01_in _ | assumption | exact ⟨by omega, by omega⟩) (fun c22 => ?_) (fun c22 => ?_)
                        · exact absurd c22 (by decide)
                        · refine s_iload_n dX9_giftLine_123 rfl ?_
                          refine s_iconst dX9_giftLine_124 ?_
                          refine s_icmp_ne (tgt := 132) dX9_giftLine_125 (by decide) (by first | exact hG27.2 _ _ | exact hG.2 _ _ | exact b01_in _ | assumption | exact ⟨by omega, by omega⟩) (by first | exact hG27.2 _ _ | exact hG.2 _ _ | exact b01_in _ | assumption | exact ⟨by omega, by omega⟩) (fun c23 => ?_) (fun c23 => ?_)
                          · exact absurd rfl c23
                          · refine s_iconst dX9_giftLine_128 ?_
                            refine s_goto (tgt := 133) dX9_giftLine_129 (by decide) ?_
                            refine s_istore dX9_giftLine_133 (by decide) rfl (L' := [_, _, _, _, _, _, _]) rfl ?_
                            refine s_iload dX9_giftLine_135 rfl ?_
                            refine s_iconst dX9_giftLine_137 ?_
                            refine s_icmp_ne (tgt := 158) dX9_giftLine_138 (by decide) (by first | exact hG27.2 _ _ | exact hG.2 _ _ | exact b01_in _ | assumption | exact ⟨by omega, by omega⟩) (by first | exact hG27.2 _ _ | exact hG.2 _ _ | exact b01_in _ | assumption | exact ⟨by omega, by omega⟩) (fun c24 => ?_) (fun c24 => ?_)
                            · exact absurd rfl c24
                            · refine s_aload_n dX9_giftLine_141 rfl ?_
                              refine s_ldcS (j := 10) (z := 1000 + ((24 + 10 : Nat) : Int)) dX9_giftLine_142 (by decide) rfl rfl (by decide) ?_
                              refine s_callV (d' := d - 1) (bc' := 0) (bs' := 0) (as := [_]) dX9_giftLine_144 vf_X9_134 (dd_ (by omega) (by decide)) ⟨Nat.zero_le _, Nat.zero_le _⟩ rfl rfl (Nat.le_of_ble_eq_true rfl) kl_7 rfl io_196 ?_
                              refine kw_X9_takesWord (by omega) W (fun hhG28 WhG28 => ?_)
                              have hG28 := WhG28.1.1
                              have hG := hG28
                              have W := WhG28
                              refine s_if_eq (tgt := 158) dX9_giftLine_147 (by decide) (by first | exact hG28.2 _ _ | exact hG.2 _ _ | exact b01_in _ | assumption | exact ⟨by omega, by omega⟩) (fun c25 => ?_) (fun c25 => ?_)
                              · refine s_aload_n dX9_giftLine_158 rfl ?_
                                refine s_callV (d' := d - 1) (bc' := 0) (bs' := 0) (as := []) dX9_giftLine_159 vf_X9_114 (dd_ (by omega) (by decide)) ⟨Nat.zero_le _, Nat.zero_le _⟩ rfl rfl (Nat.le_of_ble_eq_true rfl) kl_7 rfl io_196 ?_
                                refine c_X9_isWrong hG28 ?_
                                refine s_if_eq (tgt := 166) dX9_giftLine_162 (by decide) (by first | exact hG28.2 _ _ | exact hG.2 _ _ | exact b01_in _ | assumption | exact ⟨by omega, by omega⟩) (fun c26 => ?_) (fun c26 => ?_)
                                · exact absurd (wr_ne W) (b01_0.mp c26)
                                · have c26 := b01_n.mp c26
                                  exact s_return dX9_giftLine_165 rfl (k _ (Or.inl (lx_w W hu)))
                              · exact absurd rfl c25
                    · have nb1 := nb_0 S
                      have hG5 := W5.1.1
                      have hG := hG5
                      have W := W5
                      have cc := cc5
                      have e9 := gM_no (k := 2) (hi := 9999) (y := y) (by decide) eh cc
                      have hu : (pGift 2 T n (nb_ T n a) (wn_ T n a) y).1 = nb_ T n (wn_ T n (wn_ T n a)) := (pg_M (by omega) (gT_ok (v := 2) (by omega) mh) (by rw [e9]; omega)).trans e9
                      refine s_istore_n dX9_giftLine_105 (by decide) rfl (L' := [_, _, _, _, _, _, _]) rfl ?_
                      refine s_aload_n dX9_giftLine_106 rfl ?_
                      refine s_ldcS (j := 8) (z := 1000 + ((24 + 8 : Nat) : Int)) dX9_giftLine_107 (by decide) rfl rfl (by decide) ?_
                      refine s_callV (d' := d - 1) (bc' := 0) (bs' := 0) (as := [_]) dX9_giftLine_109 vf_X9_221 (dd_ (by omega) (by decide)) ⟨Nat.zero_le _, Nat.zero_le _⟩ rfl rfl (Nat.le_of_ble_eq_true rfl) kl_7 rfl io_196 ?_
                      refine kw_X9_must (by omega) W (fun hhG29 WhG29 => ?_)
                      have hG29 := WhG29.1.1
                      have hG := hG29
                      have W := WhG29
                      refine s_aload_n dX9_giftLine_112 rfl ?_
                      refine s_callV (d' := d - 1) (bc' := 0) (bs' := 0) (as := []) dX9_giftLine_113 vf_X9_233 (dd_ (by omega) (by decide)) ⟨Nat.zero_le _, Nat.zero_le _⟩ rfl rfl (Nat.le_of_ble_eq_true rfl) kl_7 rfl io_196 ?_
                      refine kw_X9_personHere (by omega) W P (fun hhG30 WhG30 => ?_)
                      have hG30 := WhG30.1.1
                      have hG := hG30
                      have W := WhG30
                      refine s_istore dX9_giftLine_116 (by decide) rfl (L' := [_, _, _, _, _, _, _]) rfl ?_
                      refine s_iload_n dX9_giftLine_118 rfl ?_
                      refine s_iconst dX9_giftLine_119 ?_
                      refine s_icmp_eq (tgt := 128) dX9_giftLine_120 (by decide) (by first | exact hG30.2 _ _ | exact hG.2 _ _ | exact b01_in _ | assumption | exact ⟨by omega, by omega⟩) (by first | exact hG30.2 _ _ | exact hG.2 _ _ | exact b01_in _ | assumption | exact ⟨by omega, by omega⟩) (fun c27 => ?_) (fun c27 => ?_)
                      · exact absurd c27 (by decide)
                      · refine s_iload_n dX9_giftLine_123 rfl ?_
                        refine s_iconst dX9_giftLine_124 ?_
                        refine s_icmp_ne (tgt := 132) dX9_giftLine_125 (by decide) (by first | exact hG30.2 _ _ | exact hG.2 _ _ | exact b01_in _ | assumption | exact ⟨by omega, by omega⟩) (by first | exact hG30.2 _ _ | exact hG.2 _ _ | exact b01_in _ | assumption | exact ⟨by omega, by omega⟩) (fun c28 => ?_) (fun c28 => ?_)
                        · exact absurd rfl c28
                        · refine s_iconst dX9_giftLine_128 ?_
                          refine s_goto (tgt := 133) dX9_giftLine_129 (by decide) ?_
                          refine s_istore dX9_giftLine_133 (by decide) rfl (L' := [_, _, _, _, _, _, _]) rfl ?_
                          refine s_iload dX9_giftLine_135 rfl ?_
                          refine s_iconst dX9_giftLine_137 ?_
                          refine s_icmp_ne (tgt := 158) dX9_giftLine_138 (by decide) (by first | exact hG30.2 _ _ | exact hG.2 _ _ | exact b01_in _ | assumption | exact ⟨by omega, by omega⟩) (by first | exact hG30.2 _ _ | exact hG.2 _ _ | exact b01_in _ | assumption | exact ⟨by omega, by omega⟩) (fun c29 => ?_) (fun c29 => ?_)
                          · exact absurd rfl c29
                          · refine s_aload_n dX9_giftLine_141 rfl ?_
                            refine s_ldcS (j := 10) (z := 1000 + ((24 + 10 : Nat) : Int)) dX9_giftLine_142 (by decide) rfl rfl (by decide) ?_
                            refine s_callV (d' := d - 1) (bc' := 0) (bs' := 0) (as := [_]) dX9_giftLine_144 vf_X9_134 (dd_ (by omega) (by decide)) ⟨Nat.zero_le _, Nat.zero_le _⟩ rfl rfl (Nat.le_of_ble_eq_true rfl) kl_7 rfl io_196 ?_
                            refine kw_X9_takesWord (by omega) W (fun hhG31 WhG31 => ?_)
                            have hG31 := WhG31.1.1
                            have hG := hG31
                            have W := WhG31
                            refine s_if_eq (tgt := 158) dX9_giftLine_147 (by decide) (by first | exact hG31.2 _ _ | exact hG.2 _ _ | exact b01_in _ | assumption | exact ⟨by omega, by omega⟩) (fun c30 => ?_) (fun c30 => ?_)
                            · refine s_aload_n dX9_giftLine_158 rfl ?_
                              refine s_callV (d' := d - 1) (bc' := 0) (bs' := 0) (as := []) dX9_giftLine_159 vf_X9_114 (dd_ (by omega) (by decide)) ⟨Nat.zero_le _, Nat.zero_le _⟩ rfl rfl (Nat.le_of_ble_eq_true rfl) kl_7 rfl io_196 ?_
                              refine c_X9_isWrong hG31 ?_
                              refine s_if_eq (tgt := 166) dX9_giftLine_162 (by decide) (by first | exact hG31.2 _ _ | exact hG.2 _ _ | exact b01_in _ | assumption | exact ⟨by omega, by omega⟩) (fun c31 => ?_) (fun c31 => ?_)
                              · exact absurd (wr_ne W) (b01_0.mp c31)
                              · have c31 := b01_n.mp c31
                                exact s_return dX9_giftLine_165 rfl (k _ (Or.inl (lx_w W hu)))
                            · exact absurd rfl c30
                  · exact absurd c8 (by decide)
                · exact absurd c7 (by decide)
              · have hG3 := W3.1.1
                have hG := hG3
                have W := W3
                have cc := cc3
                have e9 := gT_no (k := 2) (v := 2) (by omega) cc
                have hu : (pGift 2 T n (nb_ T n a) (wn_ T n a) y).1 = nb_ T n (wn_ T n a) := (pg_T (by omega) (by rw [e9]; omega)).trans e9
                refine s_goto (tgt := 78) dX9_giftLine_74 (by decide) ?_
                refine s_istore_n dX9_giftLine_78 (by decide) rfl (L' := [_, _, _, _, _, _, _]) rfl ?_
                refine s_iload_n dX9_giftLine_79 rfl ?_
                refine s_if_ne (tgt := 87) dX9_giftLine_80 (by decide) (by first | exact hG3.2 _ _ | exact hG.2 _ _ | exact b01_in _ | assumption | exact ⟨by omega, by omega⟩) (fun c32 => ?_) (fun c32 => ?_)
                · refine s_aload_n dX9_giftLine_87 rfl ?_
                  refine s_iconst dX9_giftLine_88 ?_
                  refine s_iload_n dX9_giftLine_89 rfl ?_
                  refine s_iconst dX9_giftLine_90 ?_
                  refine s_icmp_ne (tgt := 99) dX9_giftLine_91 (by decide) (by first | exact hG3.2 _ _ | exact hG.2 _ _ | exact b01_in _ | assumption | exact ⟨by omega, by omega⟩) (by first | exact hG3.2 _ _ | exact hG.2 _ _ | exact b01_in _ | assumption | exact ⟨by omega, by omega⟩) (fun c33 => ?_) (fun c33 => ?_)
                  · refine s_sipush dX9_giftLine_99 (by decide) ?_
                    refine s_callV (d' := d - 1) (bc' := 0) (bs' := 0) (as := [_, _]) dX9_giftLine_102 vf_X9_229 (dd_ (by omega) (by decide)) ⟨Nat.zero_le _, Nat.zero_le _⟩ rfl rfl (Nat.le_of_ble_eq_true rfl) kl_7 rfl io_196 ?_
                    refine kw_X9_number (by omega) W ?_
                    refine s_istore_n dX9_giftLine_105 (by decide) rfl (L' := [_, _, _, _, _, _, _]) rfl ?_
                    refine s_aload_n dX9_giftLine_106 rfl ?_
                    refine s_ldcS (j := 8) (z := 1000 + ((24 + 8 : Nat) : Int)) dX9_giftLine_107 (by decide) rfl rfl (by decide) ?_
                    refine s_callV (d' := d - 1) (bc' := 0) (bs' := 0) (as := [_]) dX9_giftLine_109 vf_X9_221 (dd_ (by omega) (by decide)) ⟨Nat.zero_le _, Nat.zero_le _⟩ rfl rfl (Nat.le_of_ble_eq_true rfl) kl_7 rfl io_196 ?_
                    refine kw_X9_must (by omega) W (fun hhG32 WhG32 => ?_)
                    have hG32 := WhG32.1.1
                    have hG := hG32
                    have W := WhG32
                    refine s_aload_n dX9_giftLine_112 rfl ?_
                    refine s_callV (d' := d - 1) (bc' := 0) (bs' := 0) (as := []) dX9_giftLine_113 vf_X9_233 (dd_ (by omega) (by decide)) ⟨Nat.zero_le _, Nat.zero_le _⟩ rfl rfl (Nat.le_of_ble_eq_true rfl) kl_7 rfl io_196 ?_
                    refine kw_X9_personHere (by omega) W P (fun hhG33 WhG33 => ?_)
                    have hG33 := WhG33.1.1
                    have hG := hG33
                    have W := WhG33
                    refine s_istore dX9_giftLine_116 (by decide) rfl (L' := [_, _, _, _, _, _, _]) rfl ?_
                    refine s_iload_n dX9_giftLine_118 rfl ?_
                    refine s_iconst dX9_giftLine_119 ?_
                    refine s_icmp_eq (tgt := 128) dX9_giftLine_120 (by decide) (by first | exact hG33.2 _ _ | exact hG.2 _ _ | exact b01_in _ | assumption | exact ⟨by omega, by omega⟩) (by first | exact hG33.2 _ _ | exact hG.2 _ _ | exact b01_in _ | assumption | exact ⟨by omega, by omega⟩) (fun c34 => ?_) (fun c34 => ?_)
                    · exact absurd c34 (by decide)
                    · refine s_iload_n dX9_giftLine_123 rfl ?_
                      refine s_iconst dX9_giftLine_124 ?_
                      refine s_icmp_ne (tgt := 132) dX9_giftLine_125 (by decide) (by first | exact hG33.2 _ _ | exact hG.2 _ _ | exact b01_in _ | assumption | exact ⟨by omega, by omega⟩) (by first | exact hG33.2 _ _ | exact hG.2 _ _ | exact b01_in _ | assumption | exact ⟨by omega, by omega⟩) (fun c35 => ?_) (fun c35 => ?_)
                      · exact absurd rfl c35
                      · refine s_iconst dX9_giftLine_128 ?_
                        refine s_goto (tgt := 133) dX9_giftLine_129 (by decide) ?_
                        refine s_istore dX9_giftLine_133 (by decide) rfl (L' := [_, _, _, _, _, _, _]) rfl ?_
                        refine s_iload dX9_giftLine_135 rfl ?_
                        refine s_iconst dX9_giftLine_137 ?_
                        refine s_icmp_ne (tgt := 158) dX9_giftLine_138 (by decide) (by first | exact hG33.2 _ _ | exact hG.2 _ _ | exact b01_in _ | assumption | exact ⟨by omega, by omega⟩) (by first | exact hG33.2 _ _ | exact hG.2 _ _ | exact b01_in _ | assumption | exact ⟨by omega, by omega⟩) (fun c36 => ?_) (fun c36 => ?_)
                        · exact absurd rfl c36
                        · refine s_aload_n dX9_giftLine_141 rfl ?_
                          refine s_ldcS (j := 10) (z := 1000 + ((24 + 10 : Nat) : Int)) dX9_giftLine_142 (by decide) rfl rfl (by decide) ?_
                          refine s_callV (d' := d - 1) (bc' := 0) (bs' := 0) (as := [_]) dX9_giftLine_144 vf_X9_134 (dd_ (by omega) (by decide)) ⟨Nat.zero_le _, Nat.zero_le _⟩ rfl rfl (Nat.le_of_ble_eq_true rfl) kl_7 rfl io_196 ?_
                          refine kw_X9_takesWord (by omega) W (fun hhG34 WhG34 => ?_)
                          have hG34 := WhG34.1.1
                          have hG := hG34
                          have W := WhG34
                          refine s_if_eq (tgt := 158) dX9_giftLine_147 (by decide) (by first | exact hG34.2 _ _ | exact hG.2 _ _ | exact b01_in _ | assumption | exact ⟨by omega, by omega⟩) (fun c37 => ?_) (fun c37 => ?_)
                          · refine s_aload_n dX9_giftLine_158 rfl ?_
                            refine s_callV (d' := d - 1) (bc' := 0) (bs' := 0) (as := []) dX9_giftLine_159 vf_X9_114 (dd_ (by omega) (by decide)) ⟨Nat.zero_le _, Nat.zero_le _⟩ rfl rfl (Nat.le_of_ble_eq_true rfl) kl_7 rfl io_196 ?_
                            refine c_X9_isWrong hG34 ?_
                            refine s_if_eq (tgt := 166) dX9_giftLine_162 (by decide) (by first | exact hG34.2 _ _ | exact hG.2 _ _ | exact b01_in _ | assumption | exact ⟨by omega, by omega⟩) (fun c38 => ?_) (fun c38 => ?_)
                            · exact absurd (wr_ne W) (b01_0.mp c38)
                            · have c38 := b01_n.mp c38
                              exact s_return dX9_giftLine_165 rfl (k _ (Or.inl (lx_w W hu)))
                          · exact absurd rfl c37
                  · exact absurd c33 (by decide)
                · exact absurd c32 (by decide)
          · exact absurd c5 (by decide)
      · exact absurd c3 (by decide)
    · exact absurd c2 (by decide)
  · refine s_aload_n dX9_giftLine_9 rfl ?_
    refine s_aload_n dX9_giftLine_10 rfl ?_
    refine s_geti dX9_giftLine_11 fl_X9_104 kl_7 (by decide) rfl io_196 (z := 16) rfl ?_
    rw [e16]
    refine s_callV (d' := d - 1) (bc' := 0) (bs' := 0) (as := [_]) dX9_giftLine_14 vf_X9_137 (dd_ (by omega) (by decide)) ⟨Nat.zero_le _, Nat.zero_le _⟩ rfl rfl (Nat.le_of_ble_eq_true rfl) kl_7 rfl io_196 ?_
    refine c_X9_wrong hG ⟨by omega, by omega⟩ (fun h35 g35 f35 w35 => ?_)
    have hG35 := g35
    have hG := hG35
    rw [if_pos S.2.2.1] at w35
    have W := wr_of S g35 (fun x y c => f35 x y (by omega)) (f35 _ _ (by omega)) w35 (by omega) (by omega)
    have hu : (pGift 2 T n (nb_ T n a) (wn_ T n a) y).1 = nb_ T n a := pg_full (by omega)
    refine s_aload_n dX9_giftLine_17 rfl ?_
    refine s_iload_n dX9_giftLine_18 rfl ?_
    refine s_if_ne (tgt := 27) dX9_giftLine_19 (by decide) (by first | exact hG35.2 _ _ | exact hG.2 _ _ | exact b01_in _ | assumption | exact ⟨by omega, by omega⟩) (fun c39 => ?_) (fun c39 => ?_)
    · refine s_iload_n dX9_giftLine_27 rfl ?_
      refine s_iconst dX9_giftLine_28 ?_
      refine s_icmp_ne (tgt := 37) dX9_giftLine_29 (by decide) (by first | exact hG35.2 _ _ | exact hG.2 _ _ | exact b01_in _ | assumption | exact ⟨by omega, by omega⟩) (by first | exact hG35.2 _ _ | exact hG.2 _ _ | exact b01_in _ | assumption | exact ⟨by omega, by omega⟩) (fun c40 => ?_) (fun c40 => ?_)
      · refine s_iload_n dX9_giftLine_37 rfl ?_
        refine s_iconst dX9_giftLine_38 ?_
        refine s_icmp_ne (tgt := 47) dX9_giftLine_39 (by decide) (by first | exact hG35.2 _ _ | exact hG.2 _ _ | exact b01_in _ | assumption | exact ⟨by omega, by omega⟩) (by first | exact hG35.2 _ _ | exact hG.2 _ _ | exact b01_in _ | assumption | exact ⟨by omega, by omega⟩) (fun c41 => ?_) (fun c41 => ?_)
        · exact absurd rfl c41
        · refine s_ldcS (j := 11) (z := 1000 + ((24 + 11 : Nat) : Int)) dX9_giftLine_42 (by decide) rfl rfl (by decide) ?_
          refine s_goto (tgt := 49) dX9_giftLine_44 (by decide) ?_
          refine s_callV (d' := d - 1) (bc' := 0) (bs' := 0) (as := [_]) dX9_giftLine_49 vf_X9_221 (dd_ (by omega) (by decide)) ⟨Nat.zero_le _, Nat.zero_le _⟩ rfl rfl (Nat.le_of_ble_eq_true rfl) kl_7 rfl io_196 ?_
          refine kw_X9_must (by omega) W (fun hhG36 WhG36 => ?_)
          have hG36 := WhG36.1.1
          have hG := hG36
          have W := WhG36
          refine s_iload_n dX9_giftLine_52 rfl ?_
          refine s_if_ne (tgt := 64) dX9_giftLine_53 (by decide) (by first | exact hG36.2 _ _ | exact hG.2 _ _ | exact b01_in _ | assumption | exact ⟨by omega, by omega⟩) (fun c42 => ?_) (fun c42 => ?_)
          · refine s_iload_n dX9_giftLine_64 rfl ?_
            refine s_iconst dX9_giftLine_65 ?_
            refine s_icmp_ne (tgt := 77) dX9_giftLine_66 (by decide) (by first | exact hG36.2 _ _ | exact hG.2 _ _ | exact b01_in _ | assumption | exact ⟨by omega, by omega⟩) (by first | exact hG36.2 _ _ | exact hG.2 _ _ | exact b01_in _ | assumption | exact ⟨by omega, by omega⟩) (fun c43 => ?_) (fun c43 => ?_)
            · exact absurd rfl c43
            · refine s_aload_n dX9_giftLine_69 rfl ?_
              refine s_iconst dX9_giftLine_70 ?_
              refine s_callV (d' := d - 1) (bc' := 0) (bs' := 0) (as := [_]) dX9_giftLine_71 vf_X9_236 (dd_ (by omega) (by decide)) ⟨Nat.zero_le _, Nat.zero_le _⟩ rfl rfl (Nat.le_of_ble_eq_true rfl) kl_7 rfl io_196 ?_
              refine kw_X9_thingHere (by omega) W P (fun hhG37 WhG37 => ?_)
              have hG37 := WhG37.1.1
              have hG := hG37
              have W := WhG37
              refine s_goto (tgt := 78) dX9_giftLine_74 (by decide) ?_
              refine s_istore_n dX9_giftLine_78 (by decide) rfl (L' := [_, _, _, _, _, _, _]) rfl ?_
              refine s_iload_n dX9_giftLine_79 rfl ?_
              refine s_if_ne (tgt := 87) dX9_giftLine_80 (by decide) (by first | exact hG37.2 _ _ | exact hG.2 _ _ | exact b01_in _ | assumption | exact ⟨by omega, by omega⟩) (fun c44 => ?_) (fun c44 => ?_)
              · refine s_aload_n dX9_giftLine_87 rfl ?_
                refine s_iconst dX9_giftLine_88 ?_
                refine s_iload_n dX9_giftLine_89 rfl ?_
                refine s_iconst dX9_giftLine_90 ?_
                refine s_icmp_ne (tgt := 99) dX9_giftLine_91 (by decide) (by first | exact hG37.2 _ _ | exact hG.2 _ _ | exact b01_in _ | assumption | exact ⟨by omega, by omega⟩) (by first | exact hG37.2 _ _ | exact hG.2 _ _ | exact b01_in _ | assumption | exact ⟨by omega, by omega⟩) (fun c45 => ?_) (fun c45 => ?_)
                · refine s_sipush dX9_giftLine_99 (by decide) ?_
                  refine s_callV (d' := d - 1) (bc' := 0) (bs' := 0) (as := [_, _]) dX9_giftLine_102 vf_X9_229 (dd_ (by omega) (by decide)) ⟨Nat.zero_le _, Nat.zero_le _⟩ rfl rfl (Nat.le_of_ble_eq_true rfl) kl_7 rfl io_196 ?_
                  refine kw_X9_number (by omega) W ?_
                  refine s_istore_n dX9_giftLine_105 (by decide) rfl (L' := [_, _, _, _, _, _, _]) rfl ?_
                  refine s_aload_n dX9_giftLine_106 rfl ?_
                  refine s_ldcS (j := 8) (z := 1000 + ((24 + 8 : Nat) : Int)) dX9_giftLine_107 (by decide) rfl rfl (by decide) ?_
                  refine s_callV (d' := d - 1) (bc' := 0) (bs' := 0) (as := [_]) dX9_giftLine_109 vf_X9_221 (dd_ (by omega) (by decide)) ⟨Nat.zero_le _, Nat.zero_le _⟩ rfl rfl (Nat.le_of_ble_eq_true rfl) kl_7 rfl io_196 ?_
                  refine kw_X9_must (by omega) W (fun hhG38 WhG38 => ?_)
                  have hG38 := WhG38.1.1
                  have hG := hG38
                  have W := WhG38
                  refine s_aload_n dX9_giftLine_112 rfl ?_
                  refine s_callV (d' := d - 1) (bc' := 0) (bs' := 0) (as := []) dX9_giftLine_113 vf_X9_233 (dd_ (by omega) (by decide)) ⟨Nat.zero_le _, Nat.zero_le _⟩ rfl rfl (Nat.le_of_ble_eq_true rfl) kl_7 rfl io_196 ?_
                  refine kw_X9_personHere (by omega) W P (fun hhG39 WhG39 => ?_)
                  have hG39 := WhG39.1.1
                  have hG := hG39
                  have W := WhG39
                  refine s_istore dX9_giftLine_116 (by decide) rfl (L' := [_, _, _, _, _, _, _]) rfl ?_
                  refine s_iload_n dX9_giftLine_118 rfl ?_
                  refine s_iconst dX9_giftLine_119 ?_
                  refine s_icmp_eq (tgt := 128) dX9_giftLine_120 (by decide) (by first | exact hG39.2 _ _ | exact hG.2 _ _ | exact b01_in _ | assumption | exact ⟨by omega, by omega⟩) (by first | exact hG39.2 _ _ | exact hG.2 _ _ | exact b01_in _ | assumption | exact ⟨by omega, by omega⟩) (fun c46 => ?_) (fun c46 => ?_)
                  · exact absurd c46 (by decide)
                  · refine s_iload_n dX9_giftLine_123 rfl ?_
                    refine s_iconst dX9_giftLine_124 ?_
                    refine s_icmp_ne (tgt := 132) dX9_giftLine_125 (by decide) (by first | exact hG39.2 _ _ | exact hG.2 _ _ | exact b01_in _ | assumption | exact ⟨by omega, by omega⟩) (by first | exact hG39.2 _ _ | exact hG.2 _ _ | exact b01_in _ | assumption | exact ⟨by omega, by omega⟩) (fun c47 => ?_) (fun c47 => ?_)
                    · exact absurd rfl c47
                    · refine s_iconst dX9_giftLine_128 ?_
                      refine s_goto (tgt := 133) dX9_giftLine_129 (by decide) ?_
                      refine s_istore dX9_giftLine_133 (by decide) rfl (L' := [_, _, _, _, _, _, _]) rfl ?_
                      refine s_iload dX9_giftLine_135 rfl ?_
                      refine s_iconst dX9_giftLine_137 ?_
                      refine s_icmp_ne (tgt := 158) dX9_giftLine_138 (by decide) (by first | exact hG39.2 _ _ | exact hG.2 _ _ | exact b01_in _ | assumption | exact ⟨by omega, by omega⟩) (by first | exact hG39.2 _ _ | exact hG.2 _ _ | exact b01_in _ | assumption | exact ⟨by omega, by omega⟩) (fun c48 => ?_) (fun c48 => ?_)
                      · exact absurd rfl c48
                      · refine s_aload_n dX9_giftLine_141 rfl ?_
                        refine s_ldcS (j := 10) (z := 1000 + ((24 + 10 : Nat) : Int)) dX9_giftLine_142 (by decide) rfl rfl (by decide) ?_
                        refine s_callV (d' := d - 1) (bc' := 0) (bs' := 0) (as := [_]) dX9_giftLine_144 vf_X9_134 (dd_ (by omega) (by decide)) ⟨Nat.zero_le _, Nat.zero_le _⟩ rfl rfl (Nat.le_of_ble_eq_true rfl) kl_7 rfl io_196 ?_
                        refine kw_X9_takesWord (by omega) W (fun hhG40 WhG40 => ?_)
                        have hG40 := WhG40.1.1
                        have hG := hG40
                        have W := WhG40
                        refine s_if_eq (tgt := 158) dX9_giftLine_147 (by decide) (by first | exact hG40.2 _ _ | exact hG.2 _ _ | exact b01_in _ | assumption | exact ⟨by omega, by omega⟩) (fun c49 => ?_) (fun c49 => ?_)
                        · refine s_aload_n dX9_giftLine_158 rfl ?_
                          refine s_callV (d' := d - 1) (bc' := 0) (bs' := 0) (as := []) dX9_giftLine_159 vf_X9_114 (dd_ (by omega) (by decide)) ⟨Nat.zero_le _, Nat.zero_le _⟩ rfl rfl (Nat.le_of_ble_eq_true rfl) kl_7 rfl io_196 ?_
                          refine c_X9_isWrong hG40 ?_
                          refine s_if_eq (tgt := 166) dX9_giftLine_162 (by decide) (by first | exact hG40.2 _ _ | exact hG.2 _ _ | exact b01_in _ | assumption | exact ⟨by omega, by omega⟩) (fun c50 => ?_) (fun c50 => ?_)
                          · exact absurd (wr_ne W) (b01_0.mp c50)
                          · have c50 := b01_n.mp c50
                            exact s_return dX9_giftLine_165 rfl (k _ (Or.inl (lx_w W hu)))
                        · exact absurd rfl c49
                · exact absurd c45 (by decide)
              · exact absurd c44 (by decide)
          · exact absurd c42 (by decide)
      · exact absurd c40 (by decide)
    · exact absurd c39 (by decide)
set_option maxRecDepth 100000 in
set_option maxHeartbeats 4000000 in
theorem c3_X9_giftLine  (hd : 9 ≤ d) (S : OK9 n T h a h) (e16 : h 196 16 = nb_ T n a) (P : LN_ y h) (cw : iw_ T (nb_ T n a) (wl__ T n a) (24 + 12)) (k : ∀ h1 : PH, LY_ n T h (pGift 3 T n (nb_ T n a) (wn_ T n a) y) h1 → Q.1 none nN h1) : Cl_ yX9_giftLine MX9_giftLine d bc bs [(2, 196), (0, 3)] nN h Q := by
  refine s_enter pn_X9 rfl (Nat.le_of_ble_eq_true rfl) (L := [(2, _), (0, _), (9, 0), (9, 0), (9, 0), (9, 0), (9, 0)]) rfl ?_
  have hG := S.1.1
  have ab := ok_0 S
  have nb0 := nb_0 S
  have yc := ln_c P
  have wle : wl__ T n a = wn_ T n a - nb_ T n a := rfl
  have eh : (9 : Int) = iC ((3 : Int) = 3) 9 9999 := (iC_t rfl).symm
  refine s_aload_n dX9_giftLine_0 rfl ?_
  refine s_geti dX9_giftLine_1 fl_X9_214 kl_7 (by decide) rfl io_196 (z := 21) rfl ?_
  rw [P.1.2.2]
  refine s_bipush dX9_giftLine_4 (by decide) ?_
  refine s_icmp_ne (tgt := 17) dX9_giftLine_6 (by decide) (by first | exact hG.2 _ _ | exact b01_in _ | assumption | exact ⟨by omega, by omega⟩) (by first | exact hG.2 _ _ | exact b01_in _ | assumption | exact ⟨by omega, by omega⟩) (fun c1 => ?_) (fun c1 => ?_)
  · refine s_aload_n dX9_giftLine_17 rfl ?_
    refine s_iload_n dX9_giftLine_18 rfl ?_
    refine s_if_ne (tgt := 27) dX9_giftLine_19 (by decide) (by first | exact hG.2 _ _ | exact b01_in _ | assumption | exact ⟨by omega, by omega⟩) (fun c2 => ?_) (fun c2 => ?_)
    · refine s_iload_n dX9_giftLine_27 rfl ?_
      refine s_iconst dX9_giftLine_28 ?_
      refine s_icmp_ne (tgt := 37) dX9_giftLine_29 (by decide) (by first | exact hG.2 _ _ | exact b01_in _ | assumption | exact ⟨by omega, by omega⟩) (by first | exact hG.2 _ _ | exact b01_in _ | assumption | exact ⟨by omega, by omega⟩) (fun c3 => ?_) (fun c3 => ?_)
      · refine s_iload_n dX9_giftLine_37 rfl ?_
        refine s_iconst dX9_giftLine_38 ?_
        refine s_icmp_ne (tgt := 47) dX9_giftLine_39 (by decide) (by first | exact hG.2 _ _ | exact b01_in _ | assumption | exact ⟨by omega, by omega⟩) (by first | exact hG.2 _ _ | exact b01_in _ | assumption | exact ⟨by omega, by omega⟩) (fun c4 => ?_) (fun c4 => ?_)
        · refine s_ldcS (j := 12) (z := 1000 + ((24 + 12 : Nat) : Int)) dX9_giftLine_47 (by decide) rfl rfl (by decide) ?_
          refine s_callV (d' := d - 1) (bc' := 0) (bs' := 0) (as := [_]) dX9_giftLine_49 vf_X9_221 (dd_ (by omega) (by decide)) ⟨Nat.zero_le _, Nat.zero_le _⟩ rfl rfl (Nat.le_of_ble_eq_true rfl) kl_7 rfl io_196 ?_
          refine c_X9_must (j := 24 + 12) (by decide) (by omega) S (fun cc1 h1 S1 e1 => ?_) (fun cc _ _ => absurd cw cc)
          have hG1 := S1.1.1
          have hG := hG1
          have S := S1
          have nb0 := nb_0 S
          refine s_iload_n dX9_giftLine_52 rfl ?_
          refine s_if_ne (tgt := 64) dX9_giftLine_53 (by decide) (by first | exact hG1.2 _ _ | exact hG.2 _ _ | exact b01_in _ | assumption | exact ⟨by omega, by omega⟩) (fun c5 => ?_) (fun c5 => ?_)
          · refine s_iload_n dX9_giftLine_64 rfl ?_
            refine s_iconst dX9_giftLine_65 ?_
            refine s_icmp_ne (tgt := 77) dX9_giftLine_66 (by decide) (by first | exact hG1.2 _ _ | exact hG.2 _ _ | exact b01_in _ | assumption | exact ⟨by omega, by omega⟩) (by first | exact hG1.2 _ _ | exact hG.2 _ _ | exact b01_in _ | assumption | exact ⟨by omega, by omega⟩) (fun c6 => ?_) (fun c6 => ?_)
            · refine s_iconst dX9_giftLine_77 ?_
              refine s_istore_n dX9_giftLine_78 (by decide) rfl (L' := [_, _, _, _, _, _, _]) rfl ?_
              refine s_iload_n dX9_giftLine_79 rfl ?_
              refine s_if_ne (tgt := 87) dX9_giftLine_80 (by decide) (by first | exact hG1.2 _ _ | exact hG.2 _ _ | exact b01_in _ | assumption | exact ⟨by omega, by omega⟩) (fun c7 => ?_) (fun c7 => ?_)
              · refine s_aload_n dX9_giftLine_87 rfl ?_
                refine s_iconst dX9_giftLine_88 ?_
                refine s_iload_n dX9_giftLine_89 rfl ?_
                refine s_iconst dX9_giftLine_90 ?_
                refine s_icmp_ne (tgt := 99) dX9_giftLine_91 (by decide) (by first | exact hG1.2 _ _ | exact hG.2 _ _ | exact b01_in _ | assumption | exact ⟨by omega, by omega⟩) (by first | exact hG1.2 _ _ | exact hG.2 _ _ | exact b01_in _ | assumption | exact ⟨by omega, by omega⟩) (fun c8 => ?_) (fun c8 => ?_)
                · exact absurd rfl c8
                · refine s_bipush dX9_giftLine_94 (by decide) ?_
                  refine s_goto (tgt := 102) dX9_giftLine_96 (by decide) ?_
                  refine s_callV (d' := d - 1) (bc' := 0) (bs' := 0) (as := [_, _]) dX9_giftLine_102 vf_X9_229 (dd_ (by omega) (by decide)) ⟨Nat.zero_le _, Nat.zero_le _⟩ rfl rfl (Nat.le_of_ble_eq_true rfl) kl_7 rfl io_196 ?_
                  refine c_X9_number (by omega) S ⟨by decide, by decide⟩ ⟨by decide, by decide⟩ (fun cc2 h2 S2 e2 m2 => ?_) (fun cc3 h3 v3 W3 hv3 => ?_)
                  · have nb1 := nb_0 S
                    have hG2 := S2.1.1
                    have hG := hG2
                    have S := S2
                    have nb0 := nb_0 S
                    have c1n := cc2
                    have c1nb := cc2.2
                    refine s_istore_n dX9_giftLine_105 (by decide) rfl (L' := [_, _, _, _, _, _, _]) rfl ?_
                    refine s_aload_n dX9_giftLine_106 rfl ?_
                    refine s_ldcS (j := 8) (z := 1000 + ((24 + 8 : Nat) : Int)) dX9_giftLine_107 (by decide) rfl rfl (by decide) ?_
                    refine s_callV (d' := d - 1) (bc' := 0) (bs' := 0) (as := [_]) dX9_giftLine_109 vf_X9_221 (dd_ (by omega) (by decide)) ⟨Nat.zero_le _, Nat.zero_le _⟩ rfl rfl (Nat.le_of_ble_eq_true rfl) kl_7 rfl io_196 ?_
                    refine c_X9_must (j := 24 + 8) (by decide) (by omega) S (fun cc4 h4 S4 e4 => ?_) (fun cc5 h5 W5 => ?_)
                    · have hG4 := S4.1.1
                      have hG := hG4
                      have S := S4
                      have nb0 := nb_0 S
                      have okw8 : okW T n (dn_ T n (wn_ T n a)) 8 := (iw_24 (j := 8) (by decide)).mp cc4
                      refine s_aload_n dX9_giftLine_112 rfl ?_
                      refine s_callV (d' := d - 1) (bc' := 0) (bs' := 0) (as := []) dX9_giftLine_113 vf_X9_233 (dd_ (by omega) (by decide)) ⟨Nat.zero_le _, Nat.zero_le _⟩ rfl rfl (Nat.le_of_ble_eq_true rfl) kl_7 rfl io_196 ?_
                      refine c_X9_personHere (by omega) S P (fun cc6 h6 S6 e6 => ?_) (fun cc7 h7 W7 => ?_)
                      · have hG6 := S6.1.1
                        have hG := hG6
                        have S := S6
                        have nb0 := nb_0 S
                        have cp := cc6
                        have pb := tP_bd y T n (wn_ T n (dn_ T n (wn_ T n a)))
                        have pb2 : 0 ≤ tP y T n (wn_ T n (dn_ T n (wn_ T n a))) ∧ tP y T n (wn_ T n (dn_ T n (wn_ T n a))) < y 0 1 := by omega
                        refine s_istore dX9_giftLine_116 (by decide) rfl (L' := [_, _, _, _, _, _, _]) rfl ?_
                        refine s_iload_n dX9_giftLine_118 rfl ?_
                        refine s_iconst dX9_giftLine_119 ?_
                        refine s_icmp_eq (tgt := 128) dX9_giftLine_120 (by decide) (by first | exact hG6.2 _ _ | exact hG.2 _ _ | exact b01_in _ | assumption | exact ⟨by omega, by omega⟩) (by first | exact hG6.2 _ _ | exact hG.2 _ _ | exact b01_in _ | assumption | exact ⟨by omega, by omega⟩) (fun c9 => ?_) (fun c9 => ?_)
                        · exact absurd c9 (by decide)
                        · refine s_iload_n dX9_giftLine_123 rfl ?_
                          refine s_iconst dX9_giftLine_124 ?_
                          refine s_icmp_ne (tgt := 132) dX9_giftLine_125 (by decide) (by first | exact hG6.2 _ _ | exact hG.2 _ _ | exact b01_in _ | assumption | exact ⟨by omega, by omega⟩) (by first | exact hG6.2 _ _ | exact hG.2 _ _ | exact b01_in _ | assumption | exact ⟨by omega, by omega⟩) (fun c10 => ?_) (fun c10 => ?_)
                          · refine s_iconst dX9_giftLine_132 ?_
                            refine s_istore dX9_giftLine_133 (by decide) rfl (L' := [_, _, _, _, _, _, _]) rfl ?_
                            refine s_iload dX9_giftLine_135 rfl ?_
                            refine s_iconst dX9_giftLine_137 ?_
                            refine s_icmp_ne (tgt := 158) dX9_giftLine_138 (by decide) (by first | exact hG6.2 _ _ | exact hG.2 _ _ | exact b01_in _ | assumption | exact ⟨by omega, by omega⟩) (by first | exact hG6.2 _ _ | exact hG.2 _ _ | exact b01_in _ | assumption | exact ⟨by omega, by omega⟩) (fun c11 => ?_) (fun c11 => ?_)
                            · refine s_aload_n dX9_giftLine_158 rfl ?_
                              refine s_callV (d' := d - 1) (bc' := 0) (bs' := 0) (as := []) dX9_giftLine_159 vf_X9_114 (dd_ (by omega) (by decide)) ⟨Nat.zero_le _, Nat.zero_le _⟩ rfl rfl (Nat.le_of_ble_eq_true rfl) kl_7 rfl io_196 ?_
                              refine c_X9_isWrong hG6 ?_
                              refine s_if_eq (tgt := 166) dX9_giftLine_162 (by decide) (by first | exact hG6.2 _ _ | exact hG.2 _ _ | exact b01_in _ | assumption | exact ⟨by omega, by omega⟩) (fun c12 => ?_) (fun c12 => ?_)
                              · have c12 := b01_0.mp c12
                                refine s_iconst dX9_giftLine_166 ?_
                                refine s_aload_n dX9_giftLine_167 rfl ?_
                                refine s_geti dX9_giftLine_168 fl_X9_214 kl_7 (by decide) rfl io_196 (z := 21) rfl ?_
                                have P9 := ln_aw P S.2.1
                                rw [P9.1.2.2]
                                refine s_imul dX9_giftLine_171 ?_
                                refine s_istore dX9_giftLine_172 (by decide) rfl (L' := [_, _, _, _, _, _, _]) rfl ?_
                                refine s_aload_n dX9_giftLine_174 rfl ?_
                                refine s_getr dX9_giftLine_175 fl_X9_58 kl_7 (by decide) rfl io_196 (z := 27) rfl (rf_7_27 hG6.1 io_196) (rk_7_27 io_196).1 ?_
                                refine s_iload dX9_giftLine_178 rfl ?_
                                refine s_iload_n dX9_giftLine_180 rfl ?_
                                refine s_iastoreG dX9_giftLine_181 (rk_7_27 io_196) (by omega) (by omega) hG6 (by first | exact hG6.2 _ _ | exact hG.2 _ _ | exact b01_in _ | assumption | exact ⟨by omega, by omega⟩) (fun hG8 => ?_)
                                refine s_aload_n dX9_giftLine_182 rfl ?_
                                refine s_getr dX9_giftLine_183 fl_X9_58 kl_7 (by decide) rfl io_196 (z := 27) rfl (rf_7_27 hG8.1 io_196) (rk_7_27 io_196).1 ?_
                                refine s_iload dX9_giftLine_186 rfl ?_
                                refine s_iconst dX9_giftLine_188 ?_
                                refine s_iadd dX9_giftLine_189 ?_
                                refine s_iload dX9_giftLine_190 rfl ?_
                                refine s_iastoreG dX9_giftLine_192 (rk_7_27 io_196) (by omega) (by omega) hG8 (by first | exact hG8.2 _ _ | exact hG.2 _ _ | exact b01_in _ | assumption | exact ⟨by omega, by omega⟩) (fun hG9 => ?_)
                                refine s_aload_n dX9_giftLine_193 rfl ?_
                                refine s_getr dX9_giftLine_194 fl_X9_58 kl_7 (by decide) rfl io_196 (z := 27) rfl (rf_7_27 hG9.1 io_196) (rk_7_27 io_196).1 ?_
                                refine s_iload dX9_giftLine_197 rfl ?_
                                refine s_iconst dX9_giftLine_199 ?_
                                refine s_iadd dX9_giftLine_200 ?_
                                refine s_iload_n dX9_giftLine_201 rfl ?_
                                refine s_iastoreG dX9_giftLine_202 (rk_7_27 io_196) (by omega) (by omega) hG9 (by first | exact hG9.2 _ _ | exact hG.2 _ _ | exact b01_in _ | assumption | exact ⟨by omega, by omega⟩) (fun hG10 => ?_)
                                refine s_aload_n dX9_giftLine_203 rfl ?_
                                refine s_getr dX9_giftLine_204 fl_X9_58 kl_7 (by decide) rfl io_196 (z := 27) rfl (rf_7_27 hG10.1 io_196) (rk_7_27 io_196).1 ?_
                                refine s_iload dX9_giftLine_207 rfl ?_
                                refine s_iconst dX9_giftLine_209 ?_
                                refine s_iadd dX9_giftLine_210 ?_
                                refine s_iload_n dX9_giftLine_211 rfl ?_
                                refine s_iastoreG dX9_giftLine_212 (rk_7_27 io_196) (by omega) (by omega) hG10 (by first | exact hG10.2 _ _ | exact hG.2 _ _ | exact b01_in _ | assumption | exact ⟨by omega, by omega⟩) (fun hG11 => ?_)
                                refine s_aload_n dX9_giftLine_213 rfl ?_
                                refine s_getr dX9_giftLine_214 fl_X9_58 kl_7 (by decide) rfl io_196 (z := 27) rfl (rf_7_27 hG11.1 io_196) (rk_7_27 io_196).1 ?_
                                refine s_iload dX9_giftLine_217 rfl ?_
                                refine s_iconst dX9_giftLine_219 ?_
                                refine s_iadd dX9_giftLine_220 ?_
                                refine s_iload dX9_giftLine_221 rfl ?_
                                refine s_iastoreG dX9_giftLine_223 (rk_7_27 io_196) (by omega) (by omega) hG11 (by first | exact hG11.2 _ _ | exact hG.2 _ _ | exact b01_in _ | assumption | exact ⟨by omega, by omega⟩) (fun hG12 => ?_)
                                refine s_aload_n dX9_giftLine_224 rfl ?_
                                refine s_dup dX9_giftLine_225 rfl ?_
                                refine s_geti dX9_giftLine_226 fl_X9_214 kl_7 (by decide) rfl io_196 (z := 21) rfl ?_
                                rw [hs_ne _ (by omega), hs_ne _ (by omega), hs_ne _ (by omega), hs_ne _ (by omega), hs_ne _ (by omega), P9.1.2.2]
                                refine s_iconst dX9_giftLine_229 ?_
                                refine s_iadd dX9_giftLine_230 ?_
                                refine s_putiG 21 dX9_giftLine_231 fl_X9_214 kl_7 (by decide) rfl rfl io_196 (z := 21) rfl (by decide +kernel) hG12 (by first | exact hG12.2 _ _ | exact hG.2 _ _ | exact b01_in _ | assumption | exact ⟨by omega, by omega⟩) (fun hG13 => ?_)
                                exact s_return dX9_giftLine_234 rfl (k _ (Or.inl (lx_o (b := 0) S hG13 (fun x k p q => by rw [hs_ne _ (by omega), hs_ne _ (by omega), hs_ne _ (by omega), hs_ne _ (by omega), hs_ne _ (by omega), hs_ne _ (by omega)]) (pg_ok (by omega) (gT_x (by omega)) (gM_ok (hi := 9) (by decide) eh c1n) okw8 cp (gR_x (by omega))) (ln_gift (g := y 0 2) (k := 3) (p := tP y T n (wn_ T n (dn_ T n (wn_ T n a)))) (t := -1) (m := dv_ T n (wn_ T n a)) (r := -1) P9 rfl (by omega) ⟨by omega, pb2, by omega, by omega, by omega, by omega, by omega, by omega, by omega⟩ (fun x j p q => by rw [hs_ne _ (by omega), hs_ne _ (by omega), hs_ne _ (by omega), hs_ne _ (by omega), hs_ne _ (by omega), hs_ne _ (by omega)]) (by rw [hs_ne _ (by omega), hs_ne _ (by omega), hs_ne _ (by omega), hs_ne _ (by omega), hs_ne _ (by omega), show 5 * y 0 2 + 0 = 5 * y 0 2 by omega, hs_eq]) (by rw [hs_ne _ (by omega), hs_ne _ (by omega), hs_ne _ (by omega), hs_ne _ (by omega), hs_eq]) (by rw [hs_ne _ (by omega), hs_ne _ (by omega), hs_ne _ (by omega), hs_eq]) (by rw [hs_ne _ (by omega), hs_ne _ (by omega), hs_eq]) (by rw [hs_ne _ (by omega), hs_eq]) (hs_eq _ _ _ _)))))
                              · exact absurd S.2.2.1 (b01_n.mp c12)
                            · exact absurd c11 (by decide)
                          · exact absurd c10 (by decide)
                      · have hG7 := W7.1.1
                        have hG := hG7
                        have W := W7
                        have cc := cc7
                        have hu : (pGift 3 T n (nb_ T n a) (wn_ T n a) y).1 = nb_ T n (wn_ T n (dn_ T n (wn_ T n a))) := pg_P (by omega) (gT_x (by omega)) (gM_ok (hi := 9) (by decide) eh c1n) okw8 cc
                        refine s_istore dX9_giftLine_116 (by decide) rfl (L' := [_, _, _, _, _, _, _]) rfl ?_
                        refine s_iload_n dX9_giftLine_118 rfl ?_
                        refine s_iconst dX9_giftLine_119 ?_
                        refine s_icmp_eq (tgt := 128) dX9_giftLine_120 (by decide) (by first | exact hG7.2 _ _ | exact hG.2 _ _ | exact b01_in _ | assumption | exact ⟨by omega, by omega⟩) (by first | exact hG7.2 _ _ | exact hG.2 _ _ | exact b01_in _ | assumption | exact ⟨by omega, by omega⟩) (fun c13 => ?_) (fun c13 => ?_)
                        · exact absurd c13 (by decide)
                        · refine s_iload_n dX9_giftLine_123 rfl ?_
                          refine s_iconst dX9_giftLine_124 ?_
                          refine s_icmp_ne (tgt := 132) dX9_giftLine_125 (by decide) (by first | exact hG7.2 _ _ | exact hG.2 _ _ | exact b01_in _ | assumption | exact ⟨by omega, by omega⟩) (by first | exact hG7.2 _ _ | exact hG.2 _ _ | exact b01_in _ | assumption | exact ⟨by omega, by omega⟩) (fun c14 => ?_) (fun c14 => ?_)
                          · refine s_iconst dX9_giftLine_132 ?_
                            refine s_istore dX9_giftLine_133 (by decide) rfl (L' := [_, _, _, _, _, _, _]) rfl ?_
                            refine s_iload dX9_giftLine_135 rfl ?_
                            refine s_iconst dX9_giftLine_137 ?_
                            refine s_icmp_ne (tgt := 158) dX9_giftLine_138 (by decide) (by first | exact hG7.2 _ _ | exact hG.2 _ _ | exact b01_in _ | assumption | exact ⟨by omega, by omega⟩) (by first | exact hG7.2 _ _ | exact hG.2 _ _ | exact b01_in _ | assumption | exact ⟨by omega, by omega⟩) (fun c15 => ?_) (fun c15 => ?_)
                            · refine s_aload_n dX9_giftLine_158 rfl ?_
                              refine s_callV (d' := d - 1) (bc' := 0) (bs' := 0) (as := []) dX9_giftLine_159 vf_X9_114 (dd_ (by omega) (by decide)) ⟨Nat.zero_le _, Nat.zero_le _⟩ rfl rfl (Nat.le_of_ble_eq_true rfl) kl_7 rfl io_196 ?_
                              refine c_X9_isWrong hG7 ?_
                              refine s_if_eq (tgt := 166) dX9_giftLine_162 (by decide) (by first | exact hG7.2 _ _ | exact hG.2 _ _ | exact b01_in _ | assumption | exact ⟨by omega, by omega⟩) (fun c16 => ?_) (fun c16 => ?_)
                              · exact absurd (wr_ne W) (b01_0.mp c16)
                              · have c16 := b01_n.mp c16
                                exact s_return dX9_giftLine_165 rfl (k _ (Or.inl (lx_w W hu)))
                            · exact absurd c15 (by decide)
                          · exact absurd c14 (by decide)
                    · have hG5 := W5.1.1
                      have hG := hG5
                      have W := W5
                      have cc : ¬ okW T n (dn_ T n (wn_ T n a)) 8 := fun q => cc5 ((iw_24 (j := 8) (by decide)).mpr q)
                      have hu : (pGift 3 T n (nb_ T n a) (wn_ T n a) y).1 = nb_ T n (dn_ T n (wn_ T n a)) := pg_W (by omega) (gT_x (by omega)) (gM_ok (hi := 9) (by decide) eh c1n) cc
                      refine s_aload_n dX9_giftLine_112 rfl ?_
                      refine s_callV (d' := d - 1) (bc' := 0) (bs' := 0) (as := []) dX9_giftLine_113 vf_X9_233 (dd_ (by omega) (by decide)) ⟨Nat.zero_le _, Nat.zero_le _⟩ rfl rfl (Nat.le_of_ble_eq_true rfl) kl_7 rfl io_196 ?_
                      refine kw_X9_personHere (by omega) W P (fun hhG14 WhG14 => ?_)
                      have hG14 := WhG14.1.1
                      have hG := hG14
                      have W := WhG14
                      refine s_istore dX9_giftLine_116 (by decide) rfl (L' := [_, _, _, _, _, _, _]) rfl ?_
                      refine s_iload_n dX9_giftLine_118 rfl ?_
                      refine s_iconst dX9_giftLine_119 ?_
                      refine s_icmp_eq (tgt := 128) dX9_giftLine_120 (by decide) (by first | exact hG14.2 _ _ | exact hG.2 _ _ | exact b01_in _ | assumption | exact ⟨by omega, by omega⟩) (by first | exact hG14.2 _ _ | exact hG.2 _ _ | exact b01_in _ | assumption | exact ⟨by omega, by omega⟩) (fun c17 => ?_) (fun c17 => ?_)
                      · exact absurd c17 (by decide)
                      · refine s_iload_n dX9_giftLine_123 rfl ?_
                        refine s_iconst dX9_giftLine_124 ?_
                        refine s_icmp_ne (tgt := 132) dX9_giftLine_125 (by decide) (by first | exact hG14.2 _ _ | exact hG.2 _ _ | exact b01_in _ | assumption | exact ⟨by omega, by omega⟩) (by first | exact hG14.2 _ _ | exact hG.2 _ _ | exact b01_in _ | assumption | exact ⟨by omega, by omega⟩) (fun c18 => ?_) (fun c18 => ?_)
                        · refine s_iconst dX9_giftLine_132 ?_
                          refine s_istore dX9_giftLine_133 (by decide) rfl (L' := [_, _, _, _, _, _, _]) rfl ?_
                          refine s_iload dX9_giftLine_135 rfl ?_
                          refine s_iconst dX9_giftLine_137 ?_
                          refine s_icmp_ne (tgt := 158) dX9_giftLine_138 (by decide) (by first | exact hG14.2 _ _ | exact hG.2 _ _ | exact b01_in _ | assumption | exact ⟨by omega, by omega⟩) (by first | exact hG14.2 _ _ | exact hG.2 _ _ | exact b01_in _ | assumption | exact ⟨by omega, by omega⟩) (fun c19 => ?_) (fun c19 => ?_)
                          · refine s_aload_n dX9_giftLine_158 rfl ?_
                            refine s_callV (d' := d - 1) (bc' := 0) (bs' := 0) (as := []) dX9_giftLine_159 vf_X9_114 (dd_ (by omega) (by decide)) ⟨Nat.zero_le _, Nat.zero_le _⟩ rfl rfl (Nat.le_of_ble_eq_true rfl) kl_7 rfl io_196 ?_
                            refine c_X9_isWrong hG14 ?_
                            refine s_if_eq (tgt := 166) dX9_giftLine_162 (by decide) (by first | exact hG14.2 _ _ | exact hG.2 _ _ | exact b01_in _ | assumption | exact ⟨by omega, by omega⟩) (fun c20 => ?_) (fun c20 => ?_)
                            · exact absurd (wr_ne W) (b01_0.mp c20)
                            · have c20 := b01_n.mp c20
                              exact s_return dX9_giftLine_165 rfl (k _ (Or.inl (lx_w W hu)))
                          · exact absurd c19 (by decide)
                        · exact absurd c18 (by decide)
                  · have nb1 := nb_0 S
                    have hG3 := W3.1.1
                    have hG := hG3
                    have W := W3
                    have cc := cc3
                    have e9 := gM_no (k := 3) (hi := 9) (y := y) (by decide) eh cc
                    have hu : (pGift 3 T n (nb_ T n a) (wn_ T n a) y).1 = nb_ T n (wn_ T n a) := (pg_M (by omega) (gT_x (by omega)) (by rw [e9]; omega)).trans e9
                    refine s_istore_n dX9_giftLine_105 (by decide) rfl (L' := [_, _, _, _, _, _, _]) rfl ?_
                    refine s_aload_n dX9_giftLine_106 rfl ?_
                    refine s_ldcS (j := 8) (z := 1000 + ((24 + 8 : Nat) : Int)) dX9_giftLine_107 (by decide) rfl rfl (by decide) ?_
                    refine s_callV (d' := d - 1) (bc' := 0) (bs' := 0) (as := [_]) dX9_giftLine_109 vf_X9_221 (dd_ (by omega) (by decide)) ⟨Nat.zero_le _, Nat.zero_le _⟩ rfl rfl (Nat.le_of_ble_eq_true rfl) kl_7 rfl io_196 ?_
                    refine kw_X9_must (by omega) W (fun hhG15 WhG15 => ?_)
                    have hG15 := WhG15.1.1
                    have hG := hG15
                    have W := WhG15
                    refine s_aload_n dX9_giftLine_112 rfl ?_
                    refine s_callV (d' := d - 1) (bc' := 0) (bs' := 0) (as := []) dX9_giftLine_113 vf_X9_233 (dd_ (by omega) (by decide)) ⟨Nat.zero_le _, Nat.zero_le _⟩ rfl rfl (Nat.le_of_ble_eq_true rfl) kl_7 rfl io_196 ?_
                    refine kw_X9_personHere (by omega) W P (fun hhG16 WhG16 => ?_)
                    have hG16 := WhG16.1.1
                    have hG := hG16
                    have W := WhG16
                    refine s_istore dX9_giftLine_116 (by decide) rfl (L' := [_, _, _, _, _, _, _]) rfl ?_
                    refine s_iload_n dX9_giftLine_118 rfl ?_
                    refine s_iconst dX9_giftLine_119 ?_
                    refine s_icmp_eq (tgt := 128) dX9_giftLine_120 (by decide) (by first | exact hG16.2 _ _ | exact hG.2 _ _ | exact b01_in _ | assumption | exact ⟨by omega, by omega⟩) (by first | exact hG16.2 _ _ | exact hG.2 _ _ | exact b01_in _ | assumption | exact ⟨by omega, by omega⟩) (fun c21 => ?_) (fun c21 => ?_)
                    · exact absurd c21 (by decide)
                    · refine s_iload_n dX9_giftLine_123 rfl ?_
                      refine s_iconst dX9_giftLine_124 ?_
                      refine s_icmp_ne (tgt := 132) dX9_giftLine_125 (by decide) (by first | exact hG16.2 _ _ | exact hG.2 _ _ | exact b01_in _ | assumption | exact ⟨by omega, by omega⟩) (by first | exact hG16.2 _ _ | exact hG.2 _ _ | exact b01_in _ | assumption | exact ⟨by omega, by omega⟩) (fun c22 => ?_) (fun c22 => ?_)
                      · refine s_iconst dX9_giftLine_132 ?_
                        refine s_istore dX9_giftLine_133 (by decide) rfl (L' := [_, _, _, _, _, _, _]) rfl ?_
                        refine s_iload dX9_giftLine_135 rfl ?_
                        refine s_iconst dX9_giftLine_137 ?_
                        refine s_icmp_ne (tgt := 158) dX9_giftLine_138 (by decide) (by first | exact hG16.2 _ _ | exact hG.2 _ _ | exact b01_in _ | assumption | exact ⟨by omega, by omega⟩) (by first | exact hG16.2 _ _ | exact hG.2 _ _ | exact b01_in _ | assumption | exact ⟨by omega, by omega⟩) (fun c23 => ?_) (fun c23 => ?_)
                        · refine s_aload_n dX9_giftLine_158 rfl ?_
                          refine s_callV (d' := d - 1) (bc' := 0) (bs' := 0) (as := []) dX9_giftLine_159 vf_X9_114 (dd_ (by omega) (by decide)) ⟨Nat.zero_le _, Nat.zero_le _⟩ rfl rfl (Nat.le_of_ble_eq_true rfl) kl_7 rfl io_196 ?_
                          refine c_X9_isWrong hG16 ?_
                          refine s_if_eq (tgt := 166) dX9_giftLine_162 (by decide) (by first | exact hG16.2 _ _ | exact hG.2 _ _ | exact b01_in _ | assumption | exact ⟨by omega, by omega⟩) (fun c24 => ?_) (fun c24 => ?_)
                          · exact absurd (wr_ne W) (b01_0.mp c24)
                          · have c24 := b01_n.mp c24
                            exact s_return dX9_giftLine_165 rfl (k _ (Or.inl (lx_w W hu)))
                        · exact absurd c23 (by decide)
                      · exact absurd c22 (by decide)
              · exact absurd c7 (by decide)
            · exact absurd c6 (by decide)
          · exact absurd c5 (by decide)
        · exact absurd c4 (by decide)
      · exact absurd c3 (by decide)
    · exact absurd c2 (by decide)
  · refine s_aload_n dX9_giftLine_9 rfl ?_
    refine s_aload_n dX9_giftLine_10 rfl ?_
    refine s_geti dX9_giftLine_11 fl_X9_104 kl_7 (by decide) rfl io_196 (z := 16) rfl ?_
    rw [e16]
    refine s_callV (d' := d - 1) (bc' := 0) (bs' := 0) (as := [_]) dX9_giftLine_14 vf_X9_137 (dd_ (by omega) (by decide)) ⟨Nat.zero_le _, Nat.zero_le _⟩ rfl rfl (Nat.le_of_ble_eq_true rfl) kl_7 rfl io_196 ?_
    refine c_X9_wrong hG ⟨by omega, by omega⟩ (fun h17 g17 f17 w17 => ?_)
    have hG17 := g17
    have hG := hG17
    rw [if_pos S.2.2.1] at w17
    have W := wr_of S g17 (fun x y c => f17 x y (by omega)) (f17 _ _ (by omega)) w17 (by omega) (by omega)
    have hu : (pGift 3 T n (nb_ T n a) (wn_ T n a) y).1 = nb_ T n a := pg_full (by omega)
    refine s_aload_n dX9_giftLine_17 rfl ?_
    refine s_iload_n dX9_giftLine_18 rfl ?_
    refine s_if_ne (tgt := 27) dX9_giftLine_19 (by decide) (by first | exact hG17.2 _ _ | exact hG.2 _ _ | exact b01_in _ | assumption | exact ⟨by omega, by omega⟩) (fun c25 => ?_) (fun c25 => ?_)
    · refine s_iload_n dX9_giftLine_27 rfl ?_
      refine s_iconst dX9_giftLine_28 ?_
      refine s_icmp_ne (tgt := 37) dX9_giftLine_29 (by decide) (by first | exact hG17.2 _ _ | exact hG.2 _ _ | exact b01_in _ | assumption | exact ⟨by omega, by omega⟩) (by first | exact hG17.2 _ _ | exact hG.2 _ _ | exact b01_in _ | assumption | exact ⟨by omega, by omega⟩) (fun c26 => ?_) (fun c26 => ?_)
      · refine s_iload_n dX9_giftLine_37 rfl ?_
        refine s_iconst dX9_giftLine_38 ?_
        refine s_icmp_ne (tgt := 47) dX9_giftLine_39 (by decide) (by first | exact hG17.2 _ _ | exact hG.2 _ _ | exact b01_in _ | assumption | exact ⟨by omega, by omega⟩) (by first | exact hG17.2 _ _ | exact hG.2 _ _ | exact b01_in _ | assumption | exact ⟨by omega, by omega⟩) (fun c27 => ?_) (fun c27 => ?_)
        · refine s_ldcS (j := 12) (z := 1000 + ((24 + 12 : Nat) : Int)) dX9_giftLine_47 (by decide) rfl rfl (by decide) ?_
          refine s_callV (d' := d - 1) (bc' := 0) (bs' := 0) (as := [_]) dX9_giftLine_49 vf_X9_221 (dd_ (by omega) (by decide)) ⟨Nat.zero_le _, Nat.zero_le _⟩ rfl rfl (Nat.le_of_ble_eq_true rfl) kl_7 rfl io_196 ?_
          refine kw_X9_must (by omega) W (fun hhG18 WhG18 => ?_)
          have hG18 := WhG18.1.1
          have hG := hG18
          have W := WhG18
          refine s_iload_n dX9_giftLine_52 rfl ?_
          refine s_if_ne (tgt := 64) dX9_giftLine_53 (by decide) (by first | exact hG18.2 _ _ | exact hG.2 _ _ | exact b01_in _ | assumption | exact ⟨by omega, by omega⟩) (fun c28 => ?_) (fun c28 => ?_)
          · refine s_iload_n dX9_giftLine_64 rfl ?_
            refine s_iconst dX9_giftLine_65 ?_
            refine s_icmp_ne (tgt := 77) dX9_giftLine_66 (by decide) (by first | exact hG18.2 _ _ | exact hG.2 _ _ | exact b01_in _ | assumption | exact ⟨by omega, by omega⟩) (by first | exact hG18.2 _ _ | exact hG.2 _ _ | exact b01_in _ | assumption | exact ⟨by omega, by omega⟩) (fun c29 => ?_) (fun c29 => ?_)
            · refine s_iconst dX9_giftLine_77 ?_
              refine s_istore_n dX9_giftLine_78 (by decide) rfl (L' := [_, _, _, _, _, _, _]) rfl ?_
              refine s_iload_n dX9_giftLine_79 rfl ?_
              refine s_if_ne (tgt := 87) dX9_giftLine_80 (by decide) (by first | exact hG18.2 _ _ | exact hG.2 _ _ | exact b01_in _ | assumption | exact ⟨by omega, by omega⟩) (fun c30 => ?_) (fun c30 => ?_)
              · refine s_aload_n dX9_giftLine_87 rfl ?_
                refine s_iconst dX9_giftLine_88 ?_
                refine s_iload_n dX9_giftLine_89 rfl ?_
                refine s_iconst dX9_giftLine_90 ?_
                refine s_icmp_ne (tgt := 99) dX9_giftLine_91 (by decide) (by first | exact hG18.2 _ _ | exact hG.2 _ _ | exact b01_in _ | assumption | exact ⟨by omega, by omega⟩) (by first | exact hG18.2 _ _ | exact hG.2 _ _ | exact b01_in _ | assumption | exact ⟨by omega, by omega⟩) (fun c31 => ?_) (fun c31 => ?_)
                · exact absurd rfl c31
                · refine s_bipush dX9_giftLine_94 (by decide) ?_
                  refine s_goto (tgt := 102) dX9_giftLine_96 (by decide) ?_
                  refine s_callV (d' := d - 1) (bc' := 0) (bs' := 0) (as := [_, _]) dX9_giftLine_102 vf_X9_229 (dd_ (by omega) (by decide)) ⟨Nat.zero_le _, Nat.zero_le _⟩ rfl rfl (Nat.le_of_ble_eq_true rfl) kl_7 rfl io_196 ?_
                  refine kw_X9_number (by omega) W ?_
                  refine s_istore_n dX9_giftLine_105 (by decide) rfl (L' := [_, _, _, _, _, _, _]) rfl ?_
                  refine s_aload_n dX9_giftLine_106 rfl ?_
                  refine s_ldcS (j := 8) (z := 1000 + ((24 + 8 : Nat) : Int)) dX9_giftLine_107 (by decide) rfl rfl (by decide) ?_
                  refine s_callV (d' := d - 1) (bc' := 0) (bs' := 0) (as := [_]) dX9_giftLine_109 vf_X9_221 (dd_ (by omega) (by decide)) ⟨Nat.zero_le _, Nat.zero_le _⟩ rfl rfl (Nat.le_of_ble_eq_true rfl) kl_7 rfl io_196 ?_
                  refine kw_X9_must (by omega) W (fun hhG19 WhG19 => ?_)
                  have hG19 := WhG19.1.1
                  have hG := hG19
                  have W := WhG19
                  refine s_aload_n dX9_giftLine_112 rfl ?_
                  refine s_callV (d' := d - 1) (bc' := 0) (bs' := 0) (as := []) dX9_giftLine_113 vf_X9_233 (dd_ (by omega) (by decide)) ⟨Nat.zero_le _, Nat.zero_le _⟩ rfl rfl (Nat.le_of_ble_eq_true rfl) kl_7 rfl io_196 ?_
                  refine kw_X9_personHere (by omega) W P (fun hhG20 WhG20 => ?_)
                  have hG20 := WhG20.1.1
                  have hG := hG20
                  have W := WhG20
                  refine s_istore dX9_giftLine_116 (by decide) rfl (L' := [_, _, _, _, _, _, _]) rfl ?_
                  refine s_iload_n dX9_giftLine_118 rfl ?_
                  refine s_iconst dX9_giftLine_119 ?_
                  refine s_icmp_eq (tgt := 128) dX9_giftLine_120 (by decide) (by first | exact hG20.2 _ _ | exact hG.2 _ _ | exact b01_in _ | assumption | exact ⟨by omega, by omega⟩) (by first | exact hG20.2 _ _ | exact hG.2 _ _ | exact b01_in _ | assumption | exact ⟨by omega, by omega⟩) (fun c32 => ?_) (fun c32 => ?_)
                  · exact absurd c32 (by decide)
                  · refine s_iload_n dX9_giftLine_123 rfl ?_
                    refine s_iconst dX9_giftLine_124 ?_
                    refine s_icmp_ne (tgt := 132) dX9_giftLine_125 (by decide) (by first | exact hG20.2 _ _ | exact hG.2 _ _ | exact b01_in _ | assumption | exact ⟨by omega, by omega⟩) (by first | exact hG20.2 _ _ | exact hG.2 _ _ | exact b01_in _ | assumption | exact ⟨by omega, by omega⟩) (fun c33 => ?_) (fun c33 => ?_)
                    · refine s_iconst dX9_giftLine_132 ?_
                      refine s_istore dX9_giftLine_133 (by decide) rfl (L' := [_, _, _, _, _, _, _]) rfl ?_
                      refine s_iload dX9_giftLine_135 rfl ?_
                      refine s_iconst dX9_giftLine_137 ?_
                      refine s_icmp_ne (tgt := 158) dX9_giftLine_138 (by decide) (by first | exact hG20.2 _ _ | exact hG.2 _ _ | exact b01_in _ | assumption | exact ⟨by omega, by omega⟩) (by first | exact hG20.2 _ _ | exact hG.2 _ _ | exact b01_in _ | assumption | exact ⟨by omega, by omega⟩) (fun c34 => ?_) (fun c34 => ?_)
                      · refine s_aload_n dX9_giftLine_158 rfl ?_
                        refine s_callV (d' := d - 1) (bc' := 0) (bs' := 0) (as := []) dX9_giftLine_159 vf_X9_114 (dd_ (by omega) (by decide)) ⟨Nat.zero_le _, Nat.zero_le _⟩ rfl rfl (Nat.le_of_ble_eq_true rfl) kl_7 rfl io_196 ?_
                        refine c_X9_isWrong hG20 ?_
                        refine s_if_eq (tgt := 166) dX9_giftLine_162 (by decide) (by first | exact hG20.2 _ _ | exact hG.2 _ _ | exact b01_in _ | assumption | exact ⟨by omega, by omega⟩) (fun c35 => ?_) (fun c35 => ?_)
                        · exact absurd (wr_ne W) (b01_0.mp c35)
                        · have c35 := b01_n.mp c35
                          exact s_return dX9_giftLine_165 rfl (k _ (Or.inl (lx_w W hu)))
                      · exact absurd c34 (by decide)
                    · exact absurd c33 (by decide)
              · exact absurd c30 (by decide)
            · exact absurd c29 (by decide)
          · exact absurd c28 (by decide)
        · exact absurd c27 (by decide)
      · exact absurd c26 (by decide)
    · exact absurd c25 (by decide)
end X9V
