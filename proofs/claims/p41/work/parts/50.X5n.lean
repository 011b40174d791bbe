/-! WillHouse$Reckoning.reckon -/
section X5N
variable {d bc bs : Nat} {Q : PQ} {h : PH} {r w f : Int} {z : PH}
set_option maxRecDepth 100000 in
set_option maxHeartbeats 4000000 in
theorem lp_X5_reckon  {h4 : PH} (hd : 6 ≤ d) (A : isO nN r 4) (W : isO nN w 5) (F : isO nN f 1) (hfr : f + 1 < r) (hw4 : h4 r 14 = w) (hf4 : h4 r 15 = f) (P4 : PR_ h4 w f z) (I : ZI z) (hl4 : ∀ p : Int, 0 ≤ p → p < z 0 1 → h4 (r + 1) p = zlv z p) (kx : ∀ h' : PH, G h' → (∀ x y : Int, ¬ (x = r + 2 ∨ x = r + 3 ∨ (r + 5 ≤ x ∧ x ≤ r + 16)) → h' x y = h4 x y) → (∀ g : Int, 0 ≤ g → g < z 0 2 → h' (r + 2) g = zlp z g) → (∀ t : Int, 0 ≤ t → t < z 0 0 → h' (r + 3) t = zfl z (z 0 2).toNat t) → (∀ g c : Int, 0 ≤ g → g < z 0 2 → 0 ≤ c → c < 7 → h' (r + 4 + 1 + g) c = zdu z g c) → (∀ g c : Int, z 0 2 ≤ g → g < 12 → 0 ≤ c → c < 7 → h' (r + 4 + 1 + g) c = 0) → S_ MX5_reckon d bc bs Q 61 [(2, r), (2, w), (0, z 0 2)] [] nN h') : ∀ (m : Nat) (i : Int) (h : PH), (G h) → (0 ≤ i) → (i + m = z 0 2) → (∀ x y : Int, ¬ (x = r + 2 ∨ x = r + 3 ∨ (r + 5 ≤ x ∧ x ≤ r + 16)) → h x y = h4 x y) → (∀ g : Int, 0 ≤ g → g < i → h (r + 2) g = zlp z g) → (∀ t : Int, 0 ≤ t → t < z 0 0 → h (r + 3) t = zfl z i.toNat t) → (∀ g c : Int, 0 ≤ g → g < i → 0 ≤ c → c < 7 → h (r + 4 + 1 + g) c = zdu z g c) → (∀ g c : Int, i ≤ g → g < 12 → 0 ≤ c → c < 7 → h (r + 4 + 1 + g) c = 0) → S_ MX5_reckon d bc bs Q 19 [(2, r), (2, w), (0, i)] [] nN h := by
  intro m
  induction m with
  | zero =>
    intro i h hG i0 i1 fr lp fu du zz
    have hwv := io_of_5 W
    have hrv := io_of_4 A
    have hwr : w + 36 < r := by omega
    clear hwv hrv
    have hw : h r 14 = w := by rw [fr r 14 (by omega)]; exact hw4
    have hf : h r 15 = f := by rw [fr r 15 (by omega)]; exact hf4
    have P : PR_ h w f z := PR_to P4 (fun x y a b => fr x y (by omega)) (fun y => fr _ _ (by omega))
    have hl : ∀ p : Int, 0 ≤ p → p < z 0 1 → h (r + 1) p = zlv z p := fun p a b => by rw [fr _ _ (by omega)]; exact hl4 p a b
    have eN := P.1.2.2
    have hN := I.2.2.2.1
    have hT := I.2.1
    have hP := I.2.2.1
    refine s_iload_n dX5_reckon_19 rfl ?_
    refine s_aload_n dX5_reckon_20 rfl ?_
    refine s_getr dX5_reckon_21 fl_X5_46 kl_4 (by decide) rfl A (z := 14) rfl (by first | exact hw | (simp (disch := omega) only [hs_same, hs_ne, fl_in, fl_ne, cp_inn, cp_nee]; exact hw)) (W).1 ?_
    refine s_geti dX5_reckon_24 fl_X5_63 kl_5 (by decide) rfl W (z := 7) rfl ?_
    refine s_icmp_ge (tgt := 61) dX5_reckon_27 (by decide) (by first | exact hG.2 _ _ | exact b01_in _ | assumption | exact ⟨by omega, by omega⟩) (by first | exact hG.2 _ _ | exact b01_in _ | assumption | exact ⟨by omega, by omega⟩) (fun c1 => ?_) (fun c1 => ?_)
    · have e7 : i = z 0 2 := by omega
      subst e7
      exact kx h hG fr lp fu du zz
    · exact absurd c1 (by omega)
  | succ m ih =>
    intro i h hG i0 i1 fr lp fu du zz
    have hwv := io_of_5 W
    have hrv := io_of_4 A
    have hwr : w + 36 < r := by omega
    clear hwv hrv
    have hw : h r 14 = w := by rw [fr r 14 (by omega)]; exact hw4
    have hf : h r 15 = f := by rw [fr r 15 (by omega)]; exact hf4
    have P : PR_ h w f z := PR_to P4 (fun x y a b => fr x y (by omega)) (fun y => fr _ _ (by omega))
    have hl : ∀ p : Int, 0 ≤ p → p < z 0 1 → h (r + 1) p = zlv z p := fun p a b => by rw [fr _ _ (by omega)]; exact hl4 p a b
    have eN := P.1.2.2
    have hN := I.2.2.2.1
    have hT := I.2.1
    have hP := I.2.2.1
    refine s_iload_n dX5_reckon_19 rfl ?_
    refine s_aload_n dX5_reckon_20 rfl ?_
    refine s_getr dX5_reckon_21 fl_X5_46 kl_4 (by decide) rfl A (z := 14) rfl (by first | exact hw | (simp (disch := omega) only [hs_same, hs_ne, fl_in, fl_ne, cp_inn, cp_nee]; exact hw)) (W).1 ?_
    refine s_geti dX5_reckon_24 fl_X5_63 kl_5 (by decide) rfl W (z := 7) rfl ?_
    refine s_icmp_ge (tgt := 61) dX5_reckon_27 (by decide) (by first | exact hG.2 _ _ | exact b01_in _ | assumption | exact ⟨by omega, by omega⟩) (by first | exact hG.2 _ _ | exact b01_in _ | assumption | exact ⟨by omega, by omega⟩) (fun c1 => ?_) (fun c1 => ?_)
    · exact absurd c1 (by omega)
    · refine s_aload_n dX5_reckon_30 rfl ?_
      refine s_getr dX5_reckon_31 fl_X5_15 kl_4 (by decide) rfl A (z := 1) rfl (rf_4_1 hG.1 A) (rk_4_1 A).1 ?_
      refine s_iload_n dX5_reckon_34 rfl ?_
      refine s_aload_n dX5_reckon_35 rfl ?_
      refine s_iload_n dX5_reckon_36 rfl ?_
      refine s_callV (d' := d - 1) (bc' := 0) (bs' := 0) (as := [_]) dX5_reckon_37 vf_X5_69 (dd_ (by omega) (by decide)) ⟨Nat.zero_le _, Nat.zero_le _⟩ rfl rfl (Nat.le_of_ble_eq_true rfl) kl_4 rfl A ?_
      have Gi := I.2.2.2.2.2 i (by omega) (by omega)
      have e6 := (P.2.2.2 i (by omega) (by omega)).2.1
      refine c_X5_isLapsed (by omega) A hG hw W hf F (by omega) (by omega) (by omega) (by omega) ?_
      rw [zlp_of P I hl (by omega) (by omega)]
      have z01 : zlp z i = 0 ∨ zlp z i = 1 := b01_or _
      refine s_bastore2G dX5_reckon_40 (rk_4_1 A) (by omega) (by omega) hG (by first | exact Or.inl rfl | exact Or.inr rfl | assumption | omega) (fun hG1 => ?_)
      refine s_aload_n dX5_reckon_41 rfl ?_
      refine s_getr dX5_reckon_42 fl_X5_15 kl_4 (by decide) rfl A (z := 1) rfl (rf_4_1 hG1.1 A) (rk_4_1 A).1 ?_
      refine s_iload_n dX5_reckon_45 rfl ?_
      refine s_baload2 dX5_reckon_46 (rk_4_1 A) (by omega) (by omega) ?_
      try simp (disch := omega) only [hs_same, hs_ne, fl_in, fl_ne, cp_inn, cp_nee]
      refine s_if_ne (tgt := 55) dX5_reckon_47 (by decide) (by first | exact hG1.2 _ _ | exact hG.2 _ _ | exact b01_in _ | assumption | exact ⟨by omega, by omega⟩) (fun c2 => ?_) (fun c2 => ?_)
      · refine s_iinc dX5_reckon_55 rfl (by decide) rfl (L' := [_, _, _]) rfl ?_
        refine s_goto (tgt := 19) dX5_reckon_58 (by decide) ?_
        have fr1 : ∀ x y : Int, ¬ (x = r + 2 ∨ x = r + 3 ∨ (r + 5 ≤ x ∧ x ≤ r + 16)) → hs_ h (r + 2) i (zlp z i) x y = h4 x y := fun x y hx => by rw [hs_ne _ (by omega)]; exact fr x y hx
        have P1 : PR_ (hs_ h (r + 2) i (zlp z i)) w f z := PR_to P4 (fun x y a b => fr1 x y (by omega)) (fun y => fr1 _ _ (by omega))
        have eu : (i + 1).toNat = i.toNat + 1 := by omega
        have ein : ((i.toNat : Nat) : Int) = i := by omega
        refine ih (i + 1) _ hG1 (by omega) (by omega) fr1 (fun g a b => ?_) (fun t a b => ?_) (fun g c a b y0 y1 => ?_) (fun g c a b y0 y1 => ?_)
        · by_cases e : g = i
          · subst e
            rw [hs_eq]
          · rw [hs_ne _ (by omega)]
            exact lp g a (by omega)
        · rw [hs_ne _ (by omega), fu t a b]
          unfold zfl
          rw [eu, fzk, if_neg (fun q => by rw [ein] at q; exact absurd q.2.1 (by omega))]
        · rw [hs_ne _ (by omega)]
          by_cases e : g = i
          · subst e
            rw [zz g c (Int.le_refl _) (by omega) y0 y1]
            unfold zdu
            rw [if_pos (by omega)]
          · exact du g c a (by omega) y0 y1
        · rw [hs_ne _ (by omega)]
          exact zz g c (by omega) b y0 y1
      · refine s_aload_n dX5_reckon_50 rfl ?_
        refine s_iload_n dX5_reckon_51 rfl ?_
        refine s_callV (d' := d - 1) (bc' := 0) (bs' := 0) (as := [_]) dX5_reckon_52 vf_X5_73 (dd_ (by omega) (by decide)) ⟨Nat.zero_le _, Nat.zero_le _⟩ rfl rfl (Nat.le_of_ble_eq_true rfl) kl_4 rfl A ?_
        have fr1 : ∀ x y : Int, ¬ (x = r + 2 ∨ x = r + 3 ∨ (r + 5 ≤ x ∧ x ≤ r + 16)) → hs_ h (r + 2) i (zlp z i) x y = h4 x y := fun x y hx => by rw [hs_ne _ (by omega)]; exact fr x y hx
        have P1 : PR_ (hs_ h (r + 2) i (zlp z i)) w f z := PR_to P4 (fun x y a b => fr1 x y (by omega)) (fun y => fr1 _ _ (by omega))
        have eu : (i + 1).toNat = i.toNat + 1 := by omega
        have ein : ((i.toNat : Nat) : Int) = i := by omega
        obtain ⟨e5, _, e7, e8, e9⟩ := P1.2.2.2 i (by omega) (by omega)
        obtain ⟨kk, kp, kt, -, k0, ka, k3, kr, -⟩ := Gi
        have hlz : zlp z i = 0 := by omega
        have cz := clm_z (i := i) (h := hs_ h (r + 2) i (zlp z i)) hfr hwr P1 I (by omega) (by omega) hlz (fun t a b => by rw [hs_ne _ (by omega)]; exact fu t a b) (fun c a b => by rw [hs_ne _ (by omega)]; exact zz i c (Int.le_refl _) (by omega) a b)
        refine c_X5_claim (by omega) A hG1 (by rw [fr1 r 14 (by omega)]; exact hw4) W (by rw [fr1 r 15 (by omega)]; exact hf4) F hfr (fun t a b => by rw [zbr_of P1 a b]; exact zbr_bd I.1 a b) (fun t a b => by rw [P1.2.1 t a (by omega)]; exact (I.1.1 t a b).1) (by omega) (by omega) (by rw [e5]; exact kk) (fun e => by rw [e5] at e; rw [e7]; have := kt e; omega) (by rw [e5, e8]; omega) (by rw [e8]; omega) (fun t a b e e' => ?_) (fun e => by rw [e5] at e; rw [e9]; exact kr e) (fun hG2 => ?_)
        · rw [e5] at e
          rw [e7] at e'
          have := kt (Or.inr e)
          rw [hs_ne _ (by omega), fu t a (by omega)]
          exact zfl_bd I a b (by omega)
        refine s_iinc dX5_reckon_55 rfl (by decide) rfl (L' := [_, _, _]) rfl ?_
        refine s_goto (tgt := 19) dX5_reckon_58 (by decide) ?_
        refine ih (i + 1) _ hG2 (by omega) (by omega) (fun x y hx => ?_) (fun g a b => ?_) cz.2.1 (fun g c a b y0 y1 => ?_) (fun g c a b y0 y1 => ?_)
        · rw [cz.1 x y (by omega)]
          exact fr1 x y hx
        · rw [cz.1 _ _ (by omega)]
          by_cases e : g = i
          · subst e
            rw [hs_eq]
          · rw [hs_ne _ (by omega)]
            exact lp g a (by omega)
        · by_cases e : g = i
          · subst e
            exact cz.2.2 c y0 y1
          · rw [cz.1 _ _ (by omega), hs_ne _ (by omega)]
            exact du g c a (by omega) y0 y1
        · rw [cz.1 _ _ (by omega), hs_ne _ (by omega)]
          exact zz g c (by omega) b y0 y1
theorem zdu_hi {z : PH} (I : ZI z) {g c : Int} (g0 : 0 ≤ g) (g1 : g < z 0 2) (c5 : 5 ≤ c) : zdu z g c = 0 := by
  have hr := (I.2.2.2.2.2 g g0 g1).2.2.2.2.2.2.2.1
  unfold zdu
  split
  · rfl
  split
  · rw [if_neg (by omega), if_neg (by omega)]
  split
  · rename_i e
    have := hr (Or.inl e)
    rw [if_neg (by omega)]
  split
  · rename_i e
    have := hr (Or.inr e)
    rw [if_neg (by omega), if_neg (by omega)]
  · rfl
set_option maxRecDepth 100000 in
set_option maxHeartbeats 4000000 in
theorem c_X5_reckon  (hd : 6 ≤ d) (A : isO nN r 4) (W : isO nN w 5) (F : isO nN f 1) (hfr : f + 1 < r) (hf0 : h r 15 = f) (P0 : PR_ h w f z) (I : ZI z) (hG : G h) (q : ∀ h' : PH, G h' → (∀ x y : Int, (x < r ∨ r + 46 < x ∨ (x = r ∧ y = 15)) → h' x y = h x y) → h' r 14 = w → RD_ h' r z → Q.1 none nN h') : Cl_ yX5_reckon MX5_reckon d bc bs [(2, r), (2, w)] nN h Q := by
  refine s_enter pn_X5 rfl (Nat.le_of_ble_eq_true rfl) (L := [(2, _), (2, _), (9, 0)]) rfl ?_
  have hwv := io_of_5 W
  have hrv := io_of_4 A
  have hwr : w + 36 < r := by omega
  clear hwv hrv
  have hN := I.2.2.2.1
  refine s_aload_n dX5_reckon_0 rfl ?_
  refine s_aload_n dX5_reckon_1 rfl ?_
  refine s_putrG 14 dX5_reckon_2 fl_X5_46 kl_4 (by decide) rfl rfl A (z := 14) rfl (by decide +kernel) hG (W).1 (io_lt W) (fun hG1 => ?_)
  refine s_aload_n dX5_reckon_5 rfl ?_
  refine s_callV (d' := d - 1) (bc' := 0) (bs' := 0) (as := []) dX5_reckon_6 vf_X5_54 (dd_ (by omega) (by decide)) ⟨Nat.zero_le _, Nat.zero_le _⟩ rfl rfl (Nat.le_of_ble_eq_true rfl) kl_4 rfl A ?_
  refine c_X5_clear (by omega) A hG1 (fun h2 hG2 cl => ?_)
  obtain ⟨fA, dA, tA, lA, i10, i11, i12, i13⟩ := cl
  have w2 : h2 r 14 = w := by rw [fA r 14 (by omega), hs_eq]
  have f2 : h2 r 15 = f := by rw [fA r 15 (by omega), hs_ne _ (by omega)]; exact hf0
  have F2 : ∀ x y : Int, x < r → h2 x y = h x y := fun x y hx => by rw [fA x y (by omega), hs_ne _ (by omega)]
  have P2 : PR_ h2 w f z := PR_to P0 (fun x y a b => F2 x y (by omega)) (fun y => F2 _ _ (by omega))
  refine s_aload_n dX5_reckon_9 rfl ?_
  refine s_callV (d' := d - 1) (bc' := 0) (bs' := 0) (as := []) dX5_reckon_10 vf_X5_57 (dd_ (by omega) (by decide)) ⟨Nat.zero_le _, Nat.zero_le _⟩ rfl rfl (Nat.le_of_ble_eq_true rfl) kl_4 rfl A ?_
  refine zc_stocks (by omega) A W F hfr w2 f2 P2 I hG2 (fun p a b => (lA p a b).1) i13 (fun h3 hG3 fB vlv vhr => ?_)
  have w3 : h3 r 14 = w := by rw [fB r 14 (by omega)]; exact w2
  have f3 : h3 r 15 = f := by rw [fB r 15 (by omega)]; exact f2
  have P3 : PR_ h3 w f z := PR_to P2 (fun x y a b => fB x y (by omega)) (fun y => fB _ _ (by omega))
  refine s_aload_n dX5_reckon_13 rfl ?_
  refine s_callV (d' := d - 1) (bc' := 0) (bs' := 0) (as := []) dX5_reckon_14 vf_X5_60 (dd_ (by omega) (by decide)) ⟨Nat.zero_le _, Nat.zero_le _⟩ rfl rfl (Nat.le_of_ble_eq_true rfl) kl_4 rfl A ?_
  refine zc_estate (by omega) A W F hfr w3 f3 P3 I hG3 (fun h4 hG4 fC vfu ves vav => ?_)
  have w4 : h4 r 14 = w := by rw [fC r 14 (by omega)]; exact w3
  have f4 : h4 r 15 = f := by rw [fC r 15 (by omega)]; exact f3
  have P4 : PR_ h4 w f z := PR_to P3 (fun x y a b => fC x y (by omega)) (fun y => fC _ _ (by omega))
  refine s_iconst dX5_reckon_17 ?_
  refine s_istore_n dX5_reckon_18 (by decide) rfl (L' := [_, _, _]) rfl ?_
  refine lp_X5_reckon (z := z) hd A W F hfr w4 f4 P4 I (fun p a b => by rw [fC _ _ (by omega)]; exact vlv p a b) (fun h5 hG5 fD vlp vfl vdu vzz => ?_) (z 0 2).toNat 0 h4 hG4 (Int.le_refl _) (by omega) (fun _ _ _ => rfl) (fun g a b => by omega) (fun t a b => vfu t a b) (fun g c a b => by omega) (fun g c a b c0 c1 => by rw [fC _ _ (by omega), fB _ _ (by omega)]; exact (dA g c a b c0 c1).1)
  have w5 : h5 r 14 = w := by rw [fD r 14 (by omega)]; exact w4
  have f5 : h5 r 15 = f := by rw [fD r 15 (by omega)]; exact f4
  have P5 : PR_ h5 w f z := PR_to P4 (fun x y a b => fD x y (by omega)) (fun y => fD _ _ (by omega))
  refine s_aload_n dX5_reckon_61 rfl ?_
  refine s_callV (d' := d - 1) (bc' := 0) (bs' := 0) (as := []) dX5_reckon_62 vf_X5_77 (dd_ (by omega) (by decide)) ⟨Nat.zero_le _, Nat.zero_le _⟩ rfl rfl (Nat.le_of_ble_eq_true rfl) kl_4 rfl A ?_
  refine zc_pay (by omega) A W F hfr w5 f5 P5 I hG5 (by rw [fD _ _ (by omega)]; exact vav) vdu (fun g c a b c0 c1 => by rw [fD _ _ (by omega), fC _ _ (by omega), fB _ _ (by omega)]; exact (dA g c a b c0 c1).2) (by rw [fD _ _ (by omega), fC _ _ (by omega), fB _ _ (by omega)]; exact i12) (fun h6 hG1 fE vgt vrs vct => ?_)
  have w6 : h6 r 14 = w := by rw [fE r 14 (by omega)]; exact w5
  have f6 : h6 r 15 = f := by rw [fE r 15 (by omega)]; exact f5
  have P6 : PR_ h6 w f z := PR_to P5 (fun x y a b => fE x y (by omega)) (fun y => fE _ _ (by omega))
  have l6 : ∀ p : Int, 0 ≤ p → p < z 0 1 → h6 (r + 1) p = zlv z p := fun p a b => by rw [fE _ _ (by omega), fD _ _ (by omega), fC _ _ (by omega)]; exact vlv p a b
  have hr6 : h6 r 13 = zhr z := by rw [fE _ _ (by omega), fD _ _ (by omega), fC _ _ (by omega)]; exact vhr
  refine s_aload_n dX5_reckon_65 rfl ?_
  refine s_callV (d' := d - 1) (bc' := 0) (bs' := 0) (as := []) dX5_reckon_66 vf_X5_80 (dd_ (by omega) (by decide)) ⟨Nat.zero_le _, Nat.zero_le _⟩ rfl rfl (Nat.le_of_ble_eq_true rfl) kl_4 rfl A ?_
  refine zc_rest (by omega) A W hwr w6 P6 I hG1 (fun g a b => by rw [fE _ _ (by omega)]; exact vlp g a b) vrs hr6 (fun g a b => ⟨?_, ?_⟩) (by rw [fE _ _ (by omega), fD _ _ (by omega), fC _ _ (by omega), fB _ _ (by omega)]; exact i10) (by rw [fE _ _ (by omega), fD _ _ (by omega), fC _ _ (by omega), fB _ _ (by omega)]; exact i11) (fun h7 hG2 fF vg6 vin vbo => ?_)
  · rw [fE _ _ (by omega), fD _ _ (by omega), fC _ _ (by omega), fB _ _ (by omega)]
    exact (dA g 6 a b (by omega) (by omega)).2
  · rw [fE _ _ (by omega)]
    by_cases e : g < z 0 2
    · rw [vdu g 6 a e (by omega) (by omega)]
      exact zdu_hi I a e (by omega)
    · exact vzz g 6 (by omega) b (by omega) (by omega)
  have w7 : h7 r 14 = w := by rw [fF r 14 (by omega)]; exact w6
  have f7 : h7 r 15 = f := by rw [fF r 15 (by omega)]; exact f6
  have P7 : PR_ h7 w f z := PR_to P6 (fun x y a b => fF x y (by omega)) (fun y => fF _ _ (by omega))
  have l7 : ∀ p : Int, 0 ≤ p → p < z 0 1 → h7 (r + 1) p = zlv z p := fun p a b => by rw [fF _ _ (by omega)]; exact l6 p a b
  have g7 : ∀ g c : Int, 0 ≤ g → g < z 0 2 → 0 ≤ c → c < 7 → h7 (r + 4 + 1 + g) c = zde z g c ∧ h7 (r + 17 + 1 + g) c = zgt z g c := fun g c a b c0 c1 => by
    by_cases e : c = 6
    · subst e
      exact ⟨(vg6 g a b).2, (vg6 g a b).1⟩
    · rw [fF _ _ (by omega), fF _ _ (by omega)]
      exact ⟨(vgt g c a b c0 (by omega)).2, (vgt g c a b c0 (by omega)).1⟩
  refine s_aload_n dX5_reckon_69 rfl ?_
  refine s_callV (d' := d - 1) (bc' := 0) (bs' := 0) (as := []) dX5_reckon_70 vf_X5_83 (dd_ (by omega) (by decide)) ⟨Nat.zero_le _, Nat.zero_le _⟩ rfl rfl (Nat.le_of_ble_eq_true rfl) kl_4 rfl A ?_
  refine zc_passGifts (by omega) A W F hfr w7 f7 P7 I hG2 l7 (fun g c a b c0 c1 => (g7 g c a b c0 c1).2) (fun g p a b a2 b2 => by rw [fF _ _ (by omega), fE _ _ (by omega), fD _ _ (by omega), fC _ _ (by omega), fB _ _ (by omega)]; exact tA g p a b a2 b2) (fun h8 hG3 fG vtk => ?_)
  have w8 : h8 r 14 = w := by rw [fG r 14 (by omega)]; exact w7
  have f8 : h8 r 15 = f := by rw [fG r 15 (by omega)]; exact f7
  have P8 : PR_ h8 w f z := PR_to P7 (fun x y a b => fG x y (by omega)) (fun y => fG _ _ (by omega))
  refine s_aload_n dX5_reckon_73 rfl ?_
  refine s_callV (d' := d - 1) (bc' := 0) (bs' := 0) (as := []) dX5_reckon_74 vf_X5_86 (dd_ (by omega) (by decide)) ⟨Nat.zero_le _, Nat.zero_le _⟩ rfl rfl (Nat.le_of_ble_eq_true rfl) kl_4 rfl A ?_
  refine zc_passIntestate (by omega) A W F hfr w8 f8 P8 I hG3 (fun p a b => by rw [fG _ _ (by omega)]; exact l7 p a b) (by rw [fG _ _ (by omega), fF _ _ (by omega)]; exact hr6) (by rw [fG _ _ (by omega)]; exact vin) (fun p a b => by rw [fG _ _ (by omega), fF _ _ (by omega), fE _ _ (by omega), fD _ _ (by omega), fC _ _ (by omega), fB _ _ (by omega)]; exact (lA p a b).2) (fun h9 hG4 fH vih => ?_)
  refine s_return dX5_reckon_77 rfl (q h9 hG4 (fun x y hx => ?_) (by rw [fH _ _ (by omega)]; exact w8) ⟨fun p a b => ?_, fun g a b => ?_, fun t a b => ?_, fun g c a b c0 c1 => ?_, fun g p a b a2 b2 => ?_, fun p a b => ?_, ?_, ?_, ?_, ?_, ?_, ?_, ?_⟩)
  · rw [fH x y (by omega), fG x y (by omega), fF x y (by omega), fE x y (by omega), fD x y (by omega), fC x y (by omega), fB x y (by omega), fA x y (by omega), hs_ne _ (by omega)]
  · rw [fH _ _ (by omega), fG _ _ (by omega)]
    exact l7 p a b
  · rw [fH _ _ (by omega), fG _ _ (by omega), fF _ _ (by omega), fE _ _ (by omega)]
    exact vlp g a b
  · rw [fH _ _ (by omega), fG _ _ (by omega), fF _ _ (by omega), fE _ _ (by omega)]
    exact vfl t a b
  · rw [fH _ _ (by omega), fG _ _ (by omega), fH _ _ (by omega), fG _ _ (by omega)]
    exact g7 g c a b c0 c1
  · rw [fH _ _ (by omega)]
    exact vtk g p a b a2 b2
  · exact vih p a b
  · rw [fH _ _ (by omega), fG _ _ (by omega), fF _ _ (by omega), fE _ _ (by omega), fD _ _ (by omega)]
    exact ves
  · rw [fH _ _ (by omega), fG _ _ (by omega), fF _ _ (by omega), fE _ _ (by omega), fD _ _ (by omega)]
    exact vav
  · rw [fH _ _ (by omega), fG _ _ (by omega), fF _ _ (by omega)]
    exact vrs
  · rw [fH _ _ (by omega), fG _ _ (by omega)]
    exact vin
  · rw [fH _ _ (by omega), fG _ _ (by omega)]
    exact vbo
  · rw [fH _ _ (by omega), fG _ _ (by omega), fF _ _ (by omega)]
    exact vct
  · rw [fH _ _ (by omega), fG _ _ (by omega), fF _ _ (by omega)]
    exact hr6
end X5N
