/-! WillHouse$Reckoning: who lives in a stock -/
section X5L
variable {d bc bs : Nat} {Q : PQ} {h : PH} {r w f : Int}
set_option maxRecDepth 100000 in
set_option maxHeartbeats 4000000 in
theorem t84_X5_livingInStock (hd : 2 ≤ d) (A : isO nN r 4) (hw : h r 14 = w) (W : isO nN w 5) (hf : h r 15 = f) (F : isO nN f 1) {x v n i pp : Int} (hG : G h) (i0 : 0 ≤ i) (i1 : i < 12) (hv : inI v) (hn : 0 ≤ n ∧ n ≤ 12)
    (C1 : ¬ (h (r + 46) i = 1 ∧ h (f + 1) (32 + i) = 0) → S_ MX5_livingInStock d bc bs Q 20 [(2, r), (0, x), (0, v), (0, v - n), (0, i + 1), (9, 0)] [] nN h) (C2 : h (r + 46) i = 1 → h (f + 1) (32 + i) = 0 → ¬ n = v → S_ MX5_livingInStock d bc bs Q 20 [(2, r), (0, x), (0, v), (0, v - (n + 1)), (0, i + 1), (9, 0)] [] nN h) (C3 : h (r + 46) i = 1 → h (f + 1) (32 + i) = 0 → n = v → Q.1 (some (0, i)) nN h) : S_ MX5_livingInStock d bc bs Q 84 [(2, r), (0, x), (0, v), (0, v - n), (0, i), (0, pp)] [] nN h := by
  have hv1 := hv.1
  have hv2 := hv.2
  refine s_aload_n dX5_livingInStock_84 rfl ?_
  refine s_getr dX5_livingInStock_85 fl_X5_43 kl_4 (by decide) rfl A (z := 18) rfl (rf_4_18 hG.1 A) (rk_4_18 A).1 ?_
  refine s_iload dX5_livingInStock_88 rfl ?_
  refine s_iaload dX5_livingInStock_90 (rk_4_18 A) (by omega) (by omega) ?_
  refine s_iconst dX5_livingInStock_91 ?_
  refine s_icmp_ne (tgt := 117) dX5_livingInStock_92 (by decide) (by first | exact hG.2 _ _ | exact b01_in _ | assumption | exact ⟨by omega, by omega⟩) (by first | exact hG.2 _ _ | exact b01_in _ | assumption | exact ⟨by omega, by omega⟩) (fun c1 => ?_) (fun c1 => ?_)
  · refine s_iinc dX5_livingInStock_117 rfl (by decide) rfl (L' := [_, _, _, _, _, _]) rfl ?_
    refine s_goto (tgt := 20) dX5_livingInStock_120 (by decide) ?_
    refine s_fg (L' := [(2, r), (0, x), (0, v), (0, _), (0, _), (9, 0)]) ⟨Or.inr rfl, Or.inr rfl, Or.inr rfl, Or.inr rfl, Or.inr rfl, Or.inl rfl, trivial⟩ ?_
    exact C1 (fun z => by omega)
  · refine s_aload_n dX5_livingInStock_95 rfl ?_
    refine s_getr dX5_livingInStock_96 fl_X5_50 kl_4 (by decide) rfl A (z := 15) rfl (by first | exact hf | (simp (disch := omega) only [hs_same, hs_ne, fl_in, fl_ne, cp_inn, cp_nee]; exact hf)) (F).1 ?_
    refine s_iload dX5_livingInStock_99 rfl ?_
    refine s_callV (d' := d - 1) (bc' := 0) (bs' := 0) (as := [_]) dX5_livingInStock_101 vf_X5_116 (dd_ (by omega) (by decide)) ⟨Nat.zero_le _, Nat.zero_le _⟩ rfl rfl (Nat.le_of_ble_eq_true rfl) kl_1 rfl F ?_
    refine c_X2_isDead F hG (by omega) (by omega) ?_
    refine s_if_ne (tgt := 117) dX5_livingInStock_104 (by decide) (by first | exact hG.2 _ _ | exact b01_in _ | assumption | exact ⟨by omega, by omega⟩) (fun c2 => ?_) (fun c2 => ?_)
    · have c2 := b01_n.mp c2
      refine s_iinc dX5_livingInStock_117 rfl (by decide) rfl (L' := [_, _, _, _, _, _]) rfl ?_
      refine s_goto (tgt := 20) dX5_livingInStock_120 (by decide) ?_
      refine s_fg (L' := [(2, r), (0, x), (0, v), (0, _), (0, _), (9, 0)]) ⟨Or.inr rfl, Or.inr rfl, Or.inr rfl, Or.inr rfl, Or.inr rfl, Or.inl rfl, trivial⟩ ?_
      exact C1 (fun z => by omega)
    · have c2 := b01_0.mp c2
      refine s_iload_n dX5_livingInStock_107 rfl ?_
      refine s_if_neW (tgt := 114) dX5_livingInStock_108 (by decide) (fun c3 => ?_) (fun c3 => ?_)
      · refine s_iinc dX5_livingInStock_114 rfl (by decide) rfl (L' := [_, _, _, _, _, _]) rfl ?_
        refine s_iinc dX5_livingInStock_117 rfl (by decide) rfl (L' := [_, _, _, _, _, _]) rfl ?_
        refine s_goto (tgt := 20) dX5_livingInStock_120 (by decide) ?_
        refine s_fg (L' := [(2, r), (0, x), (0, v), (0, _), (0, _), (9, 0)]) ⟨Or.inr rfl, Or.inr rfl, Or.inr rfl, Or.inr rfl, Or.inr rfl, Or.inl rfl, trivial⟩ ?_
        rw [show v - n + -1 = v - (n + 1) by omega]
        exact C2 (by omega) (by omega) (by omega)
      · refine s_iload dX5_livingInStock_111 rfl ?_
        exact s_ireturn dX5_livingInStock_113 rfl (C3 (by omega) (by omega) (by omega))
set_option maxRecDepth 100000 in
set_option maxHeartbeats 4000000 in
theorem lp_X5_livingInStock  {h0 : PH} (hd : 2 ≤ d) (A : isO nN r 4) (hw0 : h0 r 14 = w) (W : isO nN w 5) (hf0 : h0 r 15 = f) (F : isO nN f 1) (hfr : f + 1 < r) (p0 : 0 ≤ h0 (w + 14) 1) (p9 : h0 (w + 14) 1 ≤ 12) (hpa : ∀ p : Int, 0 ≤ p → p < h0 (w + 14) 1 → -1 ≤ h0 (w + 29) p ∧ h0 (w + 29) p < p) {x v : Int} (x0 : 0 ≤ x) (x1 : x < h0 (w + 14) 1) (hv : inI v) {SF : Int → Int} (k : ∀ h' : PH, G h' → (∀ z y : Int, ¬ z = r + 46 → h' z y = h0 z y) → Q.1 (some (0, kt_ (fun p => SF p = 1 ∧ h0 (f + 1) (32 + p) = 0) (h0 (w + 14) 1 - x).toNat x 0 v)) nN h') : ∀ (m : Nat) (i n : Int) (h : PH), (G h) → (x ≤ i) → (i + m = h0 (w + 14) 1) → (∀ z y : Int, ¬ z = r + 46 → h z y = h0 z y) → (∀ y : Int, 0 ≤ y → y < h0 (w + 14) 1 → SF y = sk_ (h0 (w + 29)) (fun y => h0 (f + 1) (32 + y)) x m i (h (r + 46)) y) → (0 ≤ n ∧ n ≤ i) → (kt_ (fun p => SF p = 1 ∧ h0 (f + 1) (32 + p) = 0) (h0 (w + 14) 1 - x).toNat x 0 v = kt_ (fun p => SF p = 1 ∧ h0 (f + 1) (32 + p) = 0) m i n v) → S_ MX5_livingInStock d bc bs Q 20 [(2, r), (0, x), (0, v), (0, v - n), (0, i), (9, 0)] [] nN h := by
  intro m
  induction m with
  | zero =>
    intro i n h hG i0 i1 fr ev hn ek
    have hwv := io_of_5 W
    have hrv := io_of_4 A
    have hwr : w + 36 < r := by omega
    clear hwv hrv
    have hw : h r 14 = w := by rw [fr r 14 (by omega)]; exact hw0
    have hf : h r 15 = f := by rw [fr r 15 (by omega)]; exact hf0
    have en := fr (w + 14) 1 (by omega)
    have epi := fr (w + 29) i (by omega)
    have edi := fr (f + 1) (32 + i) (by omega)
    have edp := fr (f + 1) (32 + h0 (w + 29) i) (by omega)
    refine s_iload dX5_livingInStock_20 rfl ?_
    refine s_aload_n dX5_livingInStock_22 rfl ?_
    refine s_getr dX5_livingInStock_23 fl_X5_46 kl_4 (by decide) rfl A (z := 14) rfl (by first | exact hw | (simp (disch := omega) only [hs_same, hs_ne, fl_in, fl_ne, cp_inn, cp_nee]; exact hw)) (W).1 ?_
    refine s_getr dX5_livingInStock_26 fl_X5_107 kl_5 (by decide) rfl W (z := 3) rfl (rf_5_3 hG.1 W) (rk_5_3 W).1 ?_
    refine s_geti dX5_livingInStock_29 fl_X5_111 kl_2 (by decide) rfl (rk_5_3 W) (z := 1) rfl ?_
    refine s_icmp_ge (tgt := 123) dX5_livingInStock_32 (by decide) (by first | exact hG.2 _ _ | exact b01_in _ | assumption | exact ⟨by omega, by omega⟩) (by first | exact hG.2 _ _ | exact b01_in _ | assumption | exact ⟨by omega, by omega⟩) (fun c1 => ?_) (fun c1 => ?_)
    · refine s_iconst dX5_livingInStock_123 ?_
      have k2 := k _ hG fr
      rw [ek] at k2
      exact s_ireturn dX5_livingInStock_124 rfl k2
    · exact absurd c1 (by omega)
  | succ m ih =>
    intro i n h hG i0 i1 fr ev hn ek
    have hwv := io_of_5 W
    have hrv := io_of_4 A
    have hwr : w + 36 < r := by omega
    clear hwv hrv
    have hw : h r 14 = w := by rw [fr r 14 (by omega)]; exact hw0
    have hf : h r 15 = f := by rw [fr r 15 (by omega)]; exact hf0
    have hpi := hpa i (by omega) (by omega)
    have en := fr (w + 14) 1 (by omega)
    have epi := fr (w + 29) i (by omega)
    have edi := fr (f + 1) (32 + i) (by omega)
    have edp := fr (f + 1) (32 + h0 (w + 29) i) (by omega)
    refine s_iload dX5_livingInStock_20 rfl ?_
    refine s_aload_n dX5_livingInStock_22 rfl ?_
    refine s_getr dX5_livingInStock_23 fl_X5_46 kl_4 (by decide) rfl A (z := 14) rfl (by first | exact hw | (simp (disch := omega) only [hs_same, hs_ne, fl_in, fl_ne, cp_inn, cp_nee]; exact hw)) (W).1 ?_
    refine s_getr dX5_livingInStock_26 fl_X5_107 kl_5 (by decide) rfl W (z := 3) rfl (rf_5_3 hG.1 W) (rk_5_3 W).1 ?_
    refine s_geti dX5_livingInStock_29 fl_X5_111 kl_2 (by decide) rfl (rk_5_3 W) (z := 1) rfl ?_
    refine s_icmp_ge (tgt := 123) dX5_livingInStock_32 (by decide) (by first | exact hG.2 _ _ | exact b01_in _ | assumption | exact ⟨by omega, by omega⟩) (by first | exact hG.2 _ _ | exact b01_in _ | assumption | exact ⟨by omega, by omega⟩) (fun c1 => ?_) (fun c1 => ?_)
    · exact absurd c1 (by omega)
    · refine s_aload_n dX5_livingInStock_35 rfl ?_
      refine s_getr dX5_livingInStock_36 fl_X5_46 kl_4 (by decide) rfl A (z := 14) rfl (by first | exact hw | (simp (disch := omega) only [hs_same, hs_ne, fl_in, fl_ne, cp_inn, cp_nee]; exact hw)) (W).1 ?_
      refine s_getr dX5_livingInStock_39 fl_X5_121 kl_5 (by decide) rfl W (z := 4) rfl (rf_5_4 hG.1 W) (rk_5_4 W).1 ?_
      refine s_iload dX5_livingInStock_42 rfl ?_
      refine s_iaload dX5_livingInStock_44 (rk_5_4 W) (by omega) (by omega) ?_
      rw [epi]
      refine s_istore dX5_livingInStock_45 (by decide) rfl (L' := [_, _, _, _, _, _]) rfl ?_
      refine s_iload dX5_livingInStock_47 rfl ?_
      refine s_iload_n dX5_livingInStock_49 rfl ?_
      refine s_icmp_lt (tgt := 84) dX5_livingInStock_50 (by decide) (by first | exact hG.2 _ _ | exact b01_in _ | assumption | exact ⟨by omega, by omega⟩) (by first | exact hG.2 _ _ | exact b01_in _ | assumption | exact ⟨by omega, by omega⟩) (fun c2 => ?_) (fun c2 => ?_)
      · have hsf : SF i = h (r + 46) i := by
          rw [ev i (by omega) (by omega), sk_, if_neg (fun z => by (try dsimp only at z); omega), sk_le _ _ _ _ (by omega)]
          skip
        have hev : ∀ y : Int, 0 ≤ y → y < h0 (w + 14) 1 → SF y = sk_ (h0 (w + 29)) (fun y => h0 (f + 1) (32 + y)) x m (i + 1) (h (r + 46)) y := fun y a b => by
          rw [ev y a b, sk_, if_neg (fun z => by (try dsimp only at z); omega)]
          try rfl
        have hfr : ∀ z y : Int, ¬ z = r + 46 → h z y = h0 z y := fun z y hx => by
          skip
          exact fr z y hx
        refine t84_X5_livingInStock hd A (by rw [hfr r 14 (by omega)]; exact hw0) W (by rw [hfr r 15 (by omega)]; exact hf0) F hG (by omega) (by omega) hv (by omega) (fun c => ?_) (fun c c' e => ?_) (fun c c' e => ?_)
        · rw [hfr (f + 1) _ (by omega)] at c
          exact ih (i + 1) n _ hG (by omega) (by omega) hfr hev (by omega) (by rw [ek]; exact kt_f (fun z => c ⟨by rw [← hsf]; exact z.1, z.2⟩))
        · rw [hfr (f + 1) _ (by omega)] at c'
          exact ih (i + 1) (n + 1) _ hG (by omega) (by omega) hfr hev (by omega) (by rw [ek]; exact kt_s ⟨by rw [hsf]; exact c, c'⟩ e)
        · rw [hfr (f + 1) _ (by omega)] at c'
          have k2 := k _ hG hfr
          rw [ek, kt_t ⟨by rw [hsf]; exact c, c'⟩ e] at k2
          exact k2
      · refine s_aload_n dX5_livingInStock_53 rfl ?_
        refine s_getr dX5_livingInStock_54 fl_X5_43 kl_4 (by decide) rfl A (z := 18) rfl (rf_4_18 hG.1 A) (rk_4_18 A).1 ?_
        refine s_iload dX5_livingInStock_57 rfl ?_
        refine s_iaload dX5_livingInStock_59 (rk_4_18 A) (by omega) (by omega) ?_
        refine s_iconst dX5_livingInStock_60 ?_
        refine s_icmp_ne (tgt := 84) dX5_livingInStock_61 (by decide) (by first | exact hG.2 _ _ | exact b01_in _ | assumption | exact ⟨by omega, by omega⟩) (by first | exact hG.2 _ _ | exact b01_in _ | assumption | exact ⟨by omega, by omega⟩) (fun c3 => ?_) (fun c3 => ?_)
        · have hsf : SF i = h (r + 46) i := by
            rw [ev i (by omega) (by omega), sk_, if_neg (fun z => by (try dsimp only at z); omega), sk_le _ _ _ _ (by omega)]
            skip
          have hev : ∀ y : Int, 0 ≤ y → y < h0 (w + 14) 1 → SF y = sk_ (h0 (w + 29)) (fun y => h0 (f + 1) (32 + y)) x m (i + 1) (h (r + 46)) y := fun y a b => by
            rw [ev y a b, sk_, if_neg (fun z => by (try dsimp only at z); omega)]
            try rfl
          have hfr : ∀ z y : Int, ¬ z = r + 46 → h z y = h0 z y := fun z y hx => by
            skip
            exact fr z y hx
          refine t84_X5_livingInStock hd A (by rw [hfr r 14 (by omega)]; exact hw0) W (by rw [hfr r 15 (by omega)]; exact hf0) F hG (by omega) (by omega) hv (by omega) (fun c => ?_) (fun c c' e => ?_) (fun c c' e => ?_)
          · rw [hfr (f + 1) _ (by omega)] at c
            exact ih (i + 1) n _ hG (by omega) (by omega) hfr hev (by omega) (by rw [ek]; exact kt_f (fun z => c ⟨by rw [← hsf]; exact z.1, z.2⟩))
          · rw [hfr (f + 1) _ (by omega)] at c'
            exact ih (i + 1) (n + 1) _ hG (by omega) (by omega) hfr hev (by omega) (by rw [ek]; exact kt_s ⟨by rw [hsf]; exact c, c'⟩ e)
          · rw [hfr (f + 1) _ (by omega)] at c'
            have k2 := k _ hG hfr
            rw [ek, kt_t ⟨by rw [hsf]; exact c, c'⟩ e] at k2
            exact k2
        · refine s_aload_n dX5_livingInStock_64 rfl ?_
          refine s_getr dX5_livingInStock_65 fl_X5_50 kl_4 (by decide) rfl A (z := 15) rfl (by first | exact hf | (simp (disch := omega) only [hs_same, hs_ne, fl_in, fl_ne, cp_inn, cp_nee]; exact hf)) (F).1 ?_
          refine s_iload dX5_livingInStock_68 rfl ?_
          refine s_callV (d' := d - 1) (bc' := 0) (bs' := 0) (as := [_]) dX5_livingInStock_70 vf_X5_116 (dd_ (by omega) (by decide)) ⟨Nat.zero_le _, Nat.zero_le _⟩ rfl rfl (Nat.le_of_ble_eq_true rfl) kl_1 rfl F ?_
          refine c_X2_isDead F hG (by omega) (by omega) ?_
          rw [edp]
          refine s_if_eq (tgt := 84) dX5_livingInStock_73 (by decide) (by first | exact hG.2 _ _ | exact b01_in _ | assumption | exact ⟨by omega, by omega⟩) (fun c4 => ?_) (fun c4 => ?_)
          · have c4 := b01_0.mp c4
            have hsf : SF i = h (r + 46) i := by
              rw [ev i (by omega) (by omega), sk_, if_neg (fun z => by (try dsimp only at z); omega), sk_le _ _ _ _ (by omega)]
              skip
            have hev : ∀ y : Int, 0 ≤ y → y < h0 (w + 14) 1 → SF y = sk_ (h0 (w + 29)) (fun y => h0 (f + 1) (32 + y)) x m (i + 1) (h (r + 46)) y := fun y a b => by
              rw [ev y a b, sk_, if_neg (fun z => by (try dsimp only at z); omega)]
              try rfl
            have hfr : ∀ z y : Int, ¬ z = r + 46 → h z y = h0 z y := fun z y hx => by
              skip
              exact fr z y hx
            refine t84_X5_livingInStock hd A (by rw [hfr r 14 (by omega)]; exact hw0) W (by rw [hfr r 15 (by omega)]; exact hf0) F hG (by omega) (by omega) hv (by omega) (fun c => ?_) (fun c c' e => ?_) (fun c c' e => ?_)
            · rw [hfr (f + 1) _ (by omega)] at c
              exact ih (i + 1) n _ hG (by omega) (by omega) hfr hev (by omega) (by rw [ek]; exact kt_f (fun z => c ⟨by rw [← hsf]; exact z.1, z.2⟩))
            · rw [hfr (f + 1) _ (by omega)] at c'
              exact ih (i + 1) (n + 1) _ hG (by omega) (by omega) hfr hev (by omega) (by rw [ek]; exact kt_s ⟨by rw [hsf]; exact c, c'⟩ e)
            · rw [hfr (f + 1) _ (by omega)] at c'
              have k2 := k _ hG hfr
              rw [ek, kt_t ⟨by rw [hsf]; exact c, c'⟩ e] at k2
              exact k2
          · have c4 := b01_n.mp c4
            refine s_aload_n dX5_livingInStock_76 rfl ?_
            refine s_getr dX5_livingInStock_77 fl_X5_43 kl_4 (by decide) rfl A (z := 18) rfl (rf_4_18 hG.1 A) (rk_4_18 A).1 ?_
            refine s_iload dX5_livingInStock_80 rfl ?_
            refine s_iconst dX5_livingInStock_82 ?_
            refine s_iastoreG dX5_livingInStock_83 (rk_4_18 A) (by omega) (by omega) hG (by first | exact hG.2 _ _ | exact b01_in _ | assumption | exact ⟨by omega, by omega⟩) (fun hG1 => ?_)
            have hsf : SF i = 1 := by
              rw [ev i (by omega) (by omega), sk_, if_pos ⟨by omega, by omega, by (try dsimp only); omega⟩, sk_le _ _ _ _ (by omega)]
              rw [if_pos rfl]
            have hev : ∀ y : Int, 0 ≤ y → y < h0 (w + 14) 1 → SF y = sk_ (h0 (w + 29)) (fun y => h0 (f + 1) (32 + y)) x m (i + 1) (hs_ h (r + 46) i 1 (r + 46)) y := fun y a b => by
              rw [ev y a b, sk_, if_pos ⟨by omega, by omega, by (try dsimp only); omega⟩]
              refine sk_congr x0 (fun p a b => (hpa p a b).2) _ _ _ _ (by omega) (by omega) (fun z a b => ?_) y a b
              by_cases e : z = i
              · subst e
                rw [if_pos rfl]
                simp (disch := omega) only [hs_same, hs_ne, fl_in, fl_ne, cp_inn, cp_nee]
              · rw [if_neg e]
                simp (disch := omega) only [hs_same, hs_ne, fl_in, fl_ne, cp_inn, cp_nee]
            have hfr : ∀ z y : Int, ¬ z = r + 46 → hs_ h (r + 46) i 1 z y = h0 z y := fun z y hx => by
              simp (disch := omega) only [hs_same, hs_ne, fl_in, fl_ne, cp_inn, cp_nee]
              exact fr z y hx
            refine t84_X5_livingInStock hd A (by rw [hfr r 14 (by omega)]; exact hw0) W (by rw [hfr r 15 (by omega)]; exact hf0) F hG1 (by omega) (by omega) hv (by omega) (fun c => ?_) (fun c c' e => ?_) (fun c c' e => ?_)
            · rw [hfr (f + 1) _ (by omega)] at c
              exact ih (i + 1) n _ hG1 (by omega) (by omega) hfr hev (by omega) (by rw [ek]; exact kt_f (fun z => c ⟨hs_eq _ _ _ _, z.2⟩))
            · rw [hfr (f + 1) _ (by omega)] at c'
              exact ih (i + 1) (n + 1) _ hG1 (by omega) (by omega) hfr hev (by omega) (by rw [ek]; exact kt_s ⟨hsf, c'⟩ e)
            · rw [hfr (f + 1) _ (by omega)] at c'
              have k2 := k _ hG1 hfr
              rw [ek, kt_t ⟨hsf, c'⟩ e] at k2
              exact k2
set_option maxRecDepth 100000 in
set_option maxHeartbeats 4000000 in
theorem c_X5_livingInStock  {h0 : PH} (hd : 2 ≤ d) (A : isO nN r 4) (hw0 : h0 r 14 = w) (W : isO nN w 5) (hf0 : h0 r 15 = f) (F : isO nN f 1) (hfr : f + 1 < r) (p0 : 0 ≤ h0 (w + 14) 1) (p9 : h0 (w + 14) 1 ≤ 12) (hpa : ∀ p : Int, 0 ≤ p → p < h0 (w + 14) 1 → -1 ≤ h0 (w + 29) p ∧ h0 (w + 29) p < p) {x v : Int} (x0 : 0 ≤ x) (x1 : x < h0 (w + 14) 1) (hv : inI v) (k : ∀ h' : PH, G h' → (∀ z y : Int, ¬ z = r + 46 → h' z y = h0 z y) → Q.1 (some (0, kt_ (fun p => sk_ (h0 (w + 29)) (fun y => h0 (f + 1) (32 + y)) x (h0 (w + 14) 1 - x).toNat x (fun y => if y = x then 1 else 0) p = 1 ∧ h0 (f + 1) (32 + p) = 0) (h0 (w + 14) 1 - x).toNat x 0 v)) nN h') (hG : G h0)  : Cl_ yX5_livingInStock MX5_livingInStock d bc bs [(2, r), (0, x), (0, v)] nN h0 Q := by
  refine s_enter pn_X5 rfl (Nat.le_of_ble_eq_true rfl) (L := [(2, _), (0, _), (0, _), (9, 0), (9, 0), (9, 0)]) rfl ?_
  have hwv := io_of_5 W
  have hrv := io_of_4 A
  have hwr : w + 36 < r := by omega
  clear hwv hrv
  refine s_aload_n dX5_livingInStock_0 rfl ?_
  refine s_getr dX5_livingInStock_1 fl_X5_43 kl_4 (by decide) rfl A (z := 18) rfl (rf_4_18 hG.1 A) (rk_4_18 A).1 ?_
  refine s_iconst dX5_livingInStock_4 ?_
  refine s_callS (d' := d - 1) (bc' := 0) (bs' := 0) (as := [_, _]) dX5_livingInStock_5 sf_X5_89 (dd_ (by omega) (by decide)) ⟨Nat.zero_le _, Nat.zero_le _⟩ rfl rfl (Nat.le_of_ble_eq_true rfl) ?_
  refine c_fill (rk_4_18 A) (by first | exact hG.2 _ _ | exact b01_in _ | assumption | exact ⟨by omega, by omega⟩) hG (fun hG1 => ?_)
  refine s_aload_n dX5_livingInStock_8 rfl ?_
  refine s_getr dX5_livingInStock_9 fl_X5_43 kl_4 (by decide) rfl A (z := 18) rfl (rf_4_18 hG1.1 A) (rk_4_18 A).1 ?_
  refine s_iload_n dX5_livingInStock_12 rfl ?_
  refine s_iconst dX5_livingInStock_13 ?_
  refine s_iastoreG dX5_livingInStock_14 (rk_4_18 A) (by omega) (by omega) hG1 (by first | exact hG1.2 _ _ | exact hG.2 _ _ | exact b01_in _ | assumption | exact ⟨by omega, by omega⟩) (fun hG2 => ?_)
  refine s_iload_n dX5_livingInStock_15 rfl ?_
  refine s_istore_n dX5_livingInStock_16 (by decide) rfl (L' := [_, _, _, _, _, _]) rfl ?_
  refine s_iload_n dX5_livingInStock_17 rfl ?_
  refine s_istore dX5_livingInStock_18 (by decide) rfl (L' := [_, _, _, _, _, _]) rfl ?_
  refine s_fg (L' := [(2, r), (0, x), (0, v), (0, v - 0), (0, x), (9, 0)]) ⟨Or.inr rfl, Or.inr rfl, Or.inr rfl, Or.inr (by rw [Int.sub_zero]), Or.inr rfl, Or.inr rfl, trivial⟩ ?_
  refine lp_X5_livingInStock (SF := sk_ (h0 (w + 29)) (fun y => h0 (f + 1) (32 + y)) x (h0 (w + 14) 1 - x).toNat x (fun y => if y = x then 1 else 0)) hd A hw0 W hf0 F hfr p0 p9 hpa x0 x1 hv k (h0 (w + 14) 1 - x).toNat x 0 _ hG2 (Int.le_refl _) (by omega) (fun z y hx => by simp (disch := omega) only [hs_same, hs_ne, fl_in, fl_ne, cp_inn, cp_nee]) (fun y a b => ?_) (by omega) rfl
  refine sk_congr x0 (fun p a b => (hpa p a b).2) _ _ _ _ (by omega) (by omega) (fun z a b => ?_) y a b
  by_cases e : z = x
  · subst e
    rw [if_pos rfl]
    simp (disch := omega) only [hs_same, hs_ne, fl_in, fl_ne, cp_inn, cp_nee]
  · rw [if_neg e]
    simp (disch := omega) only [hs_same, hs_ne, fl_in, fl_ne, cp_inn, cp_nee]
end X5L
