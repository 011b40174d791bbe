/-! WillHouse$Reckoning: what its steps do, told of the picture -/
section X5M
variable {d bc bs : Nat} {Q : PQ} {h h0 : PH} {r w f : Int} {z : PH}
theorem zbr_of (P : PR_ h w f z) {t : Int} (t0 : 0 ≤ t) (t1 : t < 8) : br_ h (f + 1) t = zbr z t := by
  unfold br_ zbr
  rw [P.2.1 _ (by omega) (by omega), P.2.1 _ (by omega) (by omega), P.2.1 _ (by omega) (by omega)]
theorem zc_stocks (hd : 3 ≤ d) (A : isO nN r 4) (W : isO nN w 5) (F : isO nN f 1) (hfr : f + 1 < r) (hw0 : h0 r 14 = w) (hf0 : h0 r 15 = f) (P : PR_ h0 w f z) (I : ZI z) (hG : G h0) (hz : ∀ p : Int, 0 ≤ p → p < 12 → h0 (r + 1) p = 0) (hz2 : h0 r 13 = 0)
    (q : ∀ h' : PH, G h' → (∀ x y : Int, ¬ (x = r + 1 ∨ (x = r ∧ y = 13)) → h' x y = h0 x y) → (∀ p : Int, 0 ≤ p → p < z 0 1 → h' (r + 1) p = zlv z p) → h' r 13 = zhr z → Q.1 none nN h') : Cl_ yX5_lookAtStocks MX5_lookAtStocks d bc bs [(2, r)] nN h0 Q := by
  have eP := P.1.2.1
  have hP := I.2.2.1
  refine c_X5_lookAtStocks hd A W F hfr hw0 hf0 (by omega) (by omega) (fun p a b => ?_) hG hz hz2 (fun h' g' fr lv _ => ?_)
  · rw [(P.2.2.1 p a (by omega)).1]
    exact (I.2.2.2.2.1 p a (by omega)).1
  · have e1 : ∀ p : Int, 0 ≤ p → p < z 0 1 → h' (r + 1) p = zlv z p := fun p a b =>
      (lvk_liv lv.1 12 p a (by omega) (by omega)).trans (lvk_congr eP (fun y y0 y1 => ⟨(P.2.2.1 y y0 (by omega)).1, P.2.1 _ (by omega) (by omega)⟩) 12 p a (by omega))
    refine q h' g' fr e1 ?_
    rw [lv.2, eP]
    exact sumI_congr _ _ (fun j j0 j1 => by rw [(P.2.2.1 j j0 (by omega)).2.1, e1 j j0 (by omega)])
theorem zc_estate (hd : 3 ≤ d) (A : isO nN r 4) (W : isO nN w 5) (F : isO nN f 1) (hfr : f + 1 < r) (hw0 : h0 r 14 = w) (hf0 : h0 r 15 = f) (P : PR_ h0 w f z) (I : ZI z) (hG : G h0)
    (q : ∀ h' : PH, G h' → (∀ x y : Int, ¬ (x = r + 3 ∨ (x = r ∧ (y = 7 ∨ y = 8))) → h' x y = h0 x y) → (∀ t : Int, 0 ≤ t → t < z 0 0 → h' (r + 3) t = zbr z t) → h' r 7 = zes z → h' r 8 = zav z → Q.1 none nN h') : Cl_ yX5_lookAtEstate MX5_lookAtEstate d bc bs [(2, r)] nN h0 Q := by
  have eT := P.1.1
  have hT := I.2.1
  have ec := P.2.1 56 (by omega) (by omega)
  have ed := P.2.1 57 (by omega) (by omega)
  have hc := I.1.2.2.1
  have hdb := I.1.2.2.2.1
  refine c_X5_lookAtEstate hd A W F hfr hw0 hf0 (by omega) (by omega) (by omega) (by omega) (by omega) (by omega) (fun t a b => ?_) hG (fun h' g' fr v1 v2 v3 => ?_)
  · rw [zbr_of P a b]
    exact zbr_bd I.1 a b
  · have e7 : h' r 7 = zes z := by
      rw [v2, ec, eT]
      unfold zes
      rw [sumI_congr (g := zbr z) _ _ (fun t a b => zbr_of P a (by omega))]
    refine q h' g' fr (fun t a b => ?_) e7 ?_
    · rw [v1 t a (by omega), zbr_of P a (by omega)]
    · rw [v3, e7, ed]
      rfl
/-- a gift's claim -/
theorem clm_z {i : Int} (hfr : f + 1 < r) (hwr : w + 36 < r) (P : PR_ h w f z) (I : ZI z) (i0 : 0 ≤ i) (i1 : i < z 0 2) (hl : zlp z i = 0) (hf : ∀ t : Int, 0 ≤ t → t < z 0 0 → h (r + 3) t = zfl z i.toNat t) (hz : ∀ c : Int, 0 ≤ c → c < 7 → h (r + 4 + 1 + i) c = 0) :
    (∀ x y : Int, ¬ (x = r + 3 ∨ x = r + 4 + 1 + i) → clm_ h r w f i x y = h x y) ∧ (∀ t : Int, 0 ≤ t → t < z 0 0 → clm_ h r w f i (r + 3) t = zfl z (i + 1).toNat t) ∧ (∀ c : Int, 0 ≤ c → c < 7 → clm_ h r w f i (r + 4 + 1 + i) c = zdu z i c) := by
  obtain ⟨e5, e6, e7, e8, e9⟩ := P.2.2.2 i i0 i1
  obtain ⟨hk, hp, ht, -, -, ha, -, hr, -⟩ := I.2.2.2.2.2 i i0 i1
  have hT := I.2.1
  have er := P.2.1 60 (by omega) (by omega)
  have eup : (i + 1).toNat = i.toNat + 1 := by omega
  have ein : ((i.toNat : Nat) : Int) = i := by omega
  have fup : ∀ t : Int, zfl z (i + 1).toNat t = if z 5 i = 2 ∧ zlp z i = 0 ∧ z 7 i = t then zfl z i.toNat t - min (z 8 i) (zfl z i.toNat t) else zfl z i.toNat t := fun t => by
    unfold zfl
    rw [eup, fzk, ein]
  by_cases k0 : z 5 i = 0
  · have t := ht (Or.inl k0)
    have eb := zbr_of P t.1 (show z 7 i < 8 by omega)
    have eo := P.2.1 (z 7 i) t.1 (by omega)
    have fn : ∀ t : Int, zfl z (i + 1).toNat t = zfl z i.toNat t := fun t => by rw [fup, if_neg (by omega)]
    by_cases kr : z 1 60 = 1
    · have e : clm_ h r w f i = hs_ (hs_ h (r + 4 + 1 + i) 0 (zbr z (z 7 i))) (r + 4 + 1 + i) 4 (max 0 (z 1 (z 7 i) - zbr z (z 7 i))) := by
        unfold clm_
        rw [if_pos (by omega), if_pos (by omega), e7, eb, eo]
      rw [e]
      refine ⟨fun x y hx => ?_, fun t a b => ?_, fun c a b => ?_⟩
      · rw [hs_ne _ (by omega), hs_ne _ (by omega)]
      · rw [hs_ne _ (by omega), hs_ne _ (by omega), fn, hf t a b]
      · unfold zdu
        rw [if_neg (by omega), if_pos k0]
        by_cases c4 : c = 4
        · subst c4
          rw [hs_eq, if_neg (by omega), if_pos ⟨rfl, kr⟩]
        · rw [hs_ne _ (by omega)]
          by_cases c0 : c = 0
          · subst c0
            rw [hs_eq, if_pos rfl]
          · rw [hs_ne _ (by omega), hz c a b, if_neg c0, if_neg (by omega)]
    · have e : clm_ h r w f i = hs_ h (r + 4 + 1 + i) 0 (zbr z (z 7 i)) := by
        unfold clm_
        rw [if_pos (by omega), if_neg (by omega), e7, eb]
      rw [e]
      refine ⟨fun x y hx => ?_, fun t a b => ?_, fun c a b => ?_⟩
      · rw [hs_ne _ (by omega)]
      · rw [hs_ne _ (by omega), fn, hf t a b]
      · unfold zdu
        rw [if_neg (by omega), if_pos k0]
        by_cases c0 : c = 0
        · subst c0
          rw [hs_eq, if_pos rfl]
        · rw [hs_ne _ (by omega), hz c a b, if_neg c0, if_neg (by omega)]
  · by_cases k1 : z 5 i = 1
    · have fn : ∀ t : Int, zfl z (i + 1).toNat t = zfl z i.toNat t := fun t => by rw [fup, if_neg (by omega)]
      have e : clm_ h r w f i = hs_ h (r + 4 + 1 + i) (z 9 i) (z 8 i) := by
        unfold clm_
        rw [if_neg (by omega), if_pos (by omega), e9, e8]
      rw [e]
      refine ⟨fun x y hx => ?_, fun t a b => ?_, fun c a b => ?_⟩
      · rw [hs_ne _ (by omega)]
      · rw [hs_ne _ (by omega), fn, hf t a b]
      · unfold zdu
        rw [if_neg (by omega), if_neg k0, if_pos k1]
        by_cases c0 : c = z 9 i
        · subst c0
          rw [hs_eq, if_pos rfl]
        · rw [hs_ne _ (by omega), hz c a b, if_neg c0]
    · by_cases k2 : z 5 i = 2
      · have t := ht (Or.inr k2)
        have rk := hr (Or.inr k2)
        have ef := hf (z 7 i) t.1 t.2
        have e : clm_ h r w f i = hs_ (hs_ (hs_ h (r + 3) (z 7 i) (zfl z i.toNat (z 7 i) - min (z 8 i) (zfl z i.toNat (z 7 i)))) (r + 4 + 1 + i) 0 (min (z 8 i) (zfl z i.toNat (z 7 i)))) (r + 4 + 1 + i) (z 9 i) (z 8 i - min (z 8 i) (zfl z i.toNat (z 7 i))) := by
          unfold clm_
          rw [if_neg (by omega), if_neg (by omega), if_pos (by omega), e7, e8, e9, ef]
        rw [e]
        refine ⟨fun x y hx => ?_, fun t a b => ?_, fun c a b => ?_⟩
        · rw [hs_ne _ (by omega), hs_ne _ (by omega), hs_ne _ (by omega)]
        · rw [hs_ne _ (by omega), hs_ne _ (by omega), fup]
          by_cases et : z 7 i = t
          · subst et
            rw [hs_eq, if_pos ⟨k2, hl, rfl⟩]
          · rw [hs_ne _ (by omega), if_neg (fun q => et q.2.2), hf t a b]
        · unfold zdu
          rw [if_neg (by omega), if_neg k0, if_neg k1, if_pos k2]
          by_cases c9 : c = z 9 i
          · subst c9
            rw [hs_eq, if_neg (by omega), if_pos rfl]
          · rw [hs_ne _ (by omega)]
            by_cases c0 : c = 0
            · subst c0
              rw [hs_eq, if_pos rfl]
            · rw [hs_ne _ (by omega), hs_ne _ (by omega), hz c a b, if_neg c0, if_neg c9]
      · have fn : ∀ t : Int, zfl z (i + 1).toNat t = zfl z i.toNat t := fun t => by rw [fup, if_neg (by omega)]
        have e : clm_ h r w f i = h := by
          unfold clm_
          rw [if_neg (by omega), if_neg (by omega), if_neg (by omega)]
        rw [e]
        refine ⟨fun x y hx => rfl, fun t a b => by rw [fn, hf t a b], fun c a b => ?_⟩
        unfold zdu
        rw [if_neg (by omega), if_neg k0, if_neg k1, if_neg k2, hz c a b]
theorem zlp_of (P : PR_ h w f z) (I : ZI z) (hl : ∀ p : Int, 0 ≤ p → p < z 0 1 → h (r + 1) p = zlv z p) {g : Int} (g0 : 0 ≤ g) (g1 : g < z 0 2) : b01 (¬ h (f + 1) (44 + g) = 0 ∨ (¬ h (f + 1) (32 + h (w + 33) g) = 0 ∧ h (w + 31) (h (w + 33) g) = 0) ∨ h (r + 1) (h (w + 33) g) = 0) = zlp z g := by
  obtain ⟨-, e6, -⟩ := P.2.2.2 g g0 g1
  have hp := (I.2.2.2.2.2 g g0 g1).2.1
  have hP := I.2.2.1
  have hN := I.2.2.2.1
  unfold zlp zdd
  rw [e6, P.2.1 _ (by omega) (by omega), P.2.1 _ (by omega) (by omega), (P.2.2.1 _ hp.1 hp.2).2.2, hl _ hp.1 hp.2]
theorem zc_pay (hd : 4 ≤ d) (A : isO nN r 4) (W : isO nN w 5) (F : isO nN f 1) (hfr : f + 1 < r) (hw0 : h0 r 14 = w) (hf0 : h0 r 15 = f) (P : PR_ h0 w f z) (I : ZI z) (hG : G h0) (hav : h0 r 8 = zav z) (hdu : ∀ g c : Int, 0 ≤ g → g < z 0 2 → 0 ≤ c → c < 7 → h0 (r + 4 + 1 + g) c = zdu z g c) (hz : ∀ g c : Int, 0 ≤ g → g < 12 → 0 ≤ c → c < 7 → h0 (r + 17 + 1 + g) c = 0) (hct : h0 r 12 = -1)
    (q : ∀ h' : PH, G h' → (∀ x y : Int, ¬ (x = r + 44 ∨ x = r + 45 ∨ (r + 18 ≤ x ∧ x ≤ r + 29 ∧ 0 ≤ y ∧ y ≤ 5) ∨ (r + 5 ≤ x ∧ x ≤ r + 16 ∧ y = 5) ∨ (x = r ∧ (y = 12 ∨ y = 9))) → h' x y = h0 x y) → (∀ g c : Int, 0 ≤ g → g < z 0 2 → 0 ≤ c → c ≤ 5 → h' (r + 17 + 1 + g) c = zgt z g c ∧ h' (r + 4 + 1 + g) c = zde z g c) → h' r 9 = zrs z → h' r 12 = zct z → Q.1 none nN h') : Cl_ yX5_payClasses MX5_payClasses d bc bs [(2, r)] nN h0 Q := by
  have eN := P.1.2.2
  have hN := I.2.2.2.1
  have em := P.2.1 58 (by omega) (by omega)
  have ea := P.2.1 59 (by omega) (by omega)
  have hm := I.1.2.2.2.2.1
  have ha := I.1.2.2.2.2.2.1
  have hv := zav_bd I
  have eD : ∀ g k : Int, 0 ≤ g → g < z 0 2 → 0 ≤ k → k ≤ 4 → (fun g c => h0 (r + 4 + 1 + g) c) g k = zdu z g k := fun g k a b k0 k1 => hdu g k a b k0 (by omega)
  have eD5 : ∀ g c : Int, 0 ≤ g → g < z 0 2 → 0 ≤ c → c ≤ 5 → d5_ (fun g c => h0 (r + 4 + 1 + g) c) (z 0 2) (zav z) (z 1 59) (max 0 (z 1 58 - 12)) g c = zd5 z g c := d5_congr eD
  refine c_X5_payClasses hd A hw0 W (by omega) (by omega) hf0 F hfr (by omega) (by omega) (by omega) (by omega) (by omega) (by omega) (fun g c a b c0 c1 => ?_) (fun g c a b c0 c1 => hz g c a (by omega) c0 (by omega)) hct hG (fun h' g' fr v1 v2 v3 v4 => ?_)
  · rw [hdu g c a (by omega) c0 (by omega)]
    exact zdu_bd I a (by omega)
  · rw [eN, hav, ea, em] at v1 v2 v3 v4
    refine q h' g' fr (fun g c a b c0 c1 => ⟨?_, ?_⟩) ?_ ?_
    · rw [v1 g c a b c0 c1]
      unfold zgt
      rw [if_neg (by omega)]
      exact gt_congr c0 (fun g k a b k0 k1 => eD5 g k a b k0 (by omega)) g a b
    · unfold zde
      rw [if_neg (by omega)]
      by_cases e : c = 5
      · subst e
        rw [v2 g a b]
        exact it_congr eD g a b
      · rw [fr _ _ (by omega), hdu g c a b c0 (by omega)]
        unfold zd5 d5_
        rw [if_neg e]
    · rw [v3]
      exact lf_congr 6 (fun g c a b c0 c1 => eD5 g c a b c0 (by omega))
    · rw [v4]
      exact ct_congr 6 (fun g c a b c0 c1 => eD5 g c a b c0 (by omega))
theorem zc_rest (hd : 3 ≤ d) (A : isO nN r 4) (W : isO nN w 5) (hwr : w + 36 < r) (hw0 : h0 r 14 = w) (P : PR_ h0 w f z) (I : ZI z) (hG : G h0) (hlp : ∀ g : Int, 0 ≤ g → g < z 0 2 → h0 (r + 2) g = zlp z g) (hrs : h0 r 9 = zrs z) (hhr : h0 r 13 = zhr z) (hz : ∀ g : Int, 0 ≤ g → g < 12 → h0 (r + 17 + 1 + g) 6 = 0 ∧ h0 (r + 4 + 1 + g) 6 = 0) (h10 : h0 r 10 = 0) (h11 : h0 r 11 = 0)
    (q : ∀ h' : PH, G h' → (∀ x y : Int, ¬ (x = r + 44 ∨ x = r + 45 ∨ (r + 18 ≤ x ∧ x ≤ r + 29 ∧ y = 6) ∨ (r + 5 ≤ x ∧ x ≤ r + 16 ∧ y = 6) ∨ (x = r ∧ (y = 10 ∨ y = 11))) → h' x y = h0 x y) → (∀ g : Int, 0 ≤ g → g < z 0 2 → h' (r + 17 + 1 + g) 6 = zgt z g 6 ∧ h' (r + 4 + 1 + g) 6 = zde z g 6) → h' r 10 = zin z → h' r 11 = zbo z → Q.1 none nN h') : Cl_ yX5_partRest MX5_partRest d bc bs [(2, r)] nN h0 Q := by
  have eN := P.1.2.2
  have hN := I.2.2.2.1
  have hr := zrs_bd I
  have ew : ∀ g : Int, 0 ≤ g → g < z 0 2 → wr_ (h0 (w + 32)) (h0 (r + 2)) (h0 (w + 35)) g = zwr z g := fun g a b => by
    unfold zwr wr_
    rw [(P.2.2.2 g a b).1, (P.2.2.2 g a b).2.2.2.1, hlp g a b]
  have es : sumI (wr_ (h0 (w + 32)) (h0 (r + 2)) (h0 (w + 35))) 0 (z 0 2).toNat = zsw z := sumI_congr _ _ (fun g a b => ew g a (by omega))
  refine c_X5_partRest hd A hw0 W (by omega) (by omega) (by omega) (by omega) (fun g a b e => ?_) (fun g a b => hz g a (by omega)) h10 h11 (fun h' g' fr v1 v2 v3 => ?_) hG
  · rw [(P.2.2.2 g a (by omega)).1] at e
    rw [(P.2.2.2 g a (by omega)).2.2.2.1]
    exact (I.2.2.2.2.2 g a (by omega)).2.2.2.2.2.2.1 e
  · rw [eN] at v1 v2 v3
    rw [es, hhr, hrs] at v2 v3
    refine q h' g' fr (fun g a b => ?_) v2 v3
    have e6 : pt_ (wr_ (h0 (w + 32)) (h0 (r + 2)) (h0 (w + 35))) (z 0 2) (h0 r 9) g = zp6 z g := by
      rw [hrs]
      exact pt_congr ew g a b
    have := v1 g a b
    rw [e6] at this
    exact this
theorem zc_passGifts (hd : 5 ≤ d) (A : isO nN r 4) (W : isO nN w 5) (F : isO nN f 1) (hfr : f + 1 < r) (hw0 : h0 r 14 = w) (hf0 : h0 r 15 = f) (P : PR_ h0 w f z) (I : ZI z) (hG : G h0) (hlv : ∀ p : Int, 0 ≤ p → p < z 0 1 → h0 (r + 1) p = zlv z p) (hgt : ∀ g c : Int, 0 ≤ g → g < z 0 2 → 0 ≤ c → c < 7 → h0 (r + 17 + 1 + g) c = zgt z g c) (hz : ∀ g p : Int, 0 ≤ g → g < 12 → 0 ≤ p → p < 12 → h0 (r + 30 + 1 + g) p = 0)
    (q : ∀ h' : PH, G h' → (∀ x y : Int, ¬ (x = r + 46 ∨ (r + 31 ≤ x ∧ x ≤ r + 42)) → h' x y = h0 x y) → (∀ g p : Int, 0 ≤ g → g < z 0 2 → 0 ≤ p → p < z 0 1 → h' (r + 30 + 1 + g) p = ztk z g p ∧ 0 ≤ ztk z g p ∧ ztk z g p ≤ 7000000) → Q.1 none nN h') : Cl_ yX5_passGifts MX5_passGifts d bc bs [(2, r)] nN h0 Q := by
  have eP := P.1.2.1
  have eN := P.1.2.2
  have hP := I.2.2.1
  have hN := I.2.2.2.1
  refine c_X5_passGifts hd A hw0 W hf0 F hfr (by omega) (by omega) (by omega) (by omega) (fun g a b => ?_) (fun g c a b c0 c1 => ?_) hz (fun h' g' fr v1 => ?_) hG
  · rw [(P.2.2.2 g a (by omega)).2.1, eP]
    exact (I.2.2.2.2.2 g a (by omega)).2.1
  · rw [hgt g c a (by omega) c0 c1]
    have := zgt_bd I (c := c) a (by omega) c0
    omega
  · refine q h' g' (fun x y hx => fr x y (by omega)) (fun g p a b a2 b2 => ?_)
    have hp := (I.2.2.2.2.2 g a b).2.1
    have ep := (P.2.2.2 g a b).2.1
    have e := tg_congr (n' := z 0 1) (pa' := z 2) (dd' := zdd z) (lv' := zlv z) (G' := zgt z g) (x' := z 6 g) eP ep (by omega) (by omega) (fun y y0 y1 => ⟨(P.2.2.1 y y0 (by omega)).1, P.2.1 _ (by omega) (by omega), hlv y y0 (by omega)⟩) (fun c c0 c1 => hgt g c a b c0 c1) p a2 (by omega)
    have := v1 g p a (by omega) a2 (by omega)
    have et : ztk z g p = tg_ (z 0 1) (z 2) (zdd z) (zlv z) (zgt z g) (z 6 g) p := rfl
    rw [et, ← e]
    exact ⟨this.1, by rw [← this.1]; exact this.2.1, by rw [← this.1]; exact this.2.2⟩
theorem zc_passIntestate (hd : 5 ≤ d) (A : isO nN r 4) (W : isO nN w 5) (F : isO nN f 1) (hfr : f + 1 < r) (hw0 : h0 r 14 = w) (hf0 : h0 r 15 = f) (P : PR_ h0 w f z) (I : ZI z) (hG : G h0) (hlv : ∀ p : Int, 0 ≤ p → p < z 0 1 → h0 (r + 1) p = zlv z p) (hhr : h0 r 13 = zhr z) (hin : h0 r 10 = zin z) (hz : ∀ p : Int, 0 ≤ p → p < 12 → h0 (r + 43) p = 0)
    (q : ∀ h' : PH, G h' → (∀ x y : Int, ¬ (x = r + 46 ∨ x = r + 43) → h' x y = h0 x y) → (∀ p : Int, 0 ≤ p → p < z 0 1 → h' (r + 43) p = zih z p ∧ 0 ≤ zih z p ∧ zih z p ≤ 12000000) → Q.1 none nN h') : Cl_ yX5_passIntestate MX5_passIntestate d bc bs [(2, r)] nN h0 Q := by
  have eP := P.1.2.1
  have hP := I.2.2.1
  have hr := zrs_bd I
  have hi : 0 ≤ zin z ∧ zin z ≤ 179991 := by
    unfold zin
    split <;> omega
  refine c_X5_passIntestate hd A hw0 W hf0 F hfr (by omega) (by omega) ?_ (by omega) (by omega) hz (fun h' g' fr v1 => ?_) hG
  · rw [hhr, eP]
    exact sumI_congr _ _ (fun j j0 j1 => by rw [(P.2.2.1 j j0 (by omega)).2.1, hlv j j0 (by omega)])
  · refine q h' g' (fun x y hx => fr x y (by omega)) (fun p a b => ?_)
    have e := ih_congr (n' := z 0 1) (pa' := z 2) (dd' := zdd z) (ch' := z 3) (lv' := zlv z) (H' := zhr z) (I' := zin z) eP hhr hin (fun y y0 y1 => ⟨(P.2.2.1 y y0 (by omega)).1, P.2.1 _ (by omega) (by omega), hlv y y0 (by omega), (P.2.2.1 y y0 (by omega)).2.1⟩) p a (by omega)
    have := v1 p a (by omega)
    have et : zih z p = ih_ (z 0 1) (z 2) (zdd z) (z 3) (zlv z) (zhr z) (zin z) p := rfl
    rw [et, ← e]
    exact ⟨this.1, by rw [show ih_ _ _ _ _ _ _ _ p = _ from this.1.symm]; exact this.2.1, by rw [show ih_ _ _ _ _ _ _ _ p = _ from this.1.symm]; exact this.2.2⟩
end X5M
