/-! WillHouse$Reckoning, what writes: classes paid in turn, interest, the rest -/
section X5F
variable {d bc bs : Nat} {Q : PQ} {h : PH} {r w f : Int}
theorem c_X5_parts {h0 : PH} (hd : 2 ≤ d) (A : isO nN r 4) (hw0 : h0 r 14 = w) (W : isO nN w 5) (g0 : 0 ≤ h0 w 7) (g9 : h0 w 7 ≤ 12) {c m0 : Int} (cc0 : 0 ≤ c) (cc1 : c < 7) (n0 : 0 ≤ m0) (n9 : m0 ≤ 1000000) (hwt : ∀ g : Int, 0 ≤ g → g < h0 w 7 → 0 ≤ h0 (r + 44) g ∧ h0 (r + 44) g ≤ 1000000) (hG : G h0)
    (hz : ∀ g : Int, 0 ≤ g → g < h0 w 7 → h0 (r + 17 + 1 + g) c = 0) (q : ∀ h' : PH, G h' → (∀ x y : Int, ¬ (x = r + 45 ∨ (r + 18 ≤ x ∧ x ≤ r + 29 ∧ y = c)) → h' x y = h0 x y) → (∀ g : Int, 0 ≤ g → g < h0 w 7 → h' (r + 17 + 1 + g) c = pt_ (h0 (r + 44)) (h0 w 7) m0 g) → Q.1 none nN h') :
    Cl_ yX5_partByWeights MX5_partByWeights d bc bs [(2, r), (0, c), (0, m0)] nN h0 Q := by
  refine c_X5_partByWeights hd A hw0 W g0 g9 cc0 cc1 n0 n9 hwt hG (fun e => q h0 hG (fun _ _ _ => rfl) (fun g a b => ?_)) (fun e h' g' f' v => q h' g' f' (fun g a b => ?_))
  · rw [hz g a b]
    unfold pt_
    rw [if_pos e]
  · rw [v g a b]
    unfold pt_
    rw [if_neg e]
set_option maxRecDepth 100000 in
set_option maxHeartbeats 4000000 in
theorem lp_X5_payClass {h1 : PH} (hd : 3 ≤ d) (A : isO nN r 4) (hw1 : h1 r 14 = w) (W : isO nN w 5) (g0 : 0 ≤ h1 w 7) (g9 : h1 w 7 ≤ 12) {c left cl e : Int} (cc0 : 0 ≤ c) (cc1 : c < 7) (l0 : 0 ≤ left) (l9 : left ≤ 1000000) (cl0 : 0 ≤ cl) (he : ¬ e = 0 → cl ≤ left) (e01 : e = 0 ∨ e = 1) (hdu : ∀ g : Int, 0 ≤ g → g < h1 w 7 → 0 ≤ h1 (r + 4 + 1 + g) c ∧ h1 (r + 4 + 1 + g) c ≤ 1000000) (hz : ∀ g : Int, 0 ≤ g → g < h1 w 7 → h1 (r + 17 + 1 + g) c = 0) (q0 : e = 0 → ∀ h' : PH, G h' → (∀ x y : Int, ¬ (x = r + 44 ∨ x = r + 45 ∨ (r + 18 ≤ x ∧ x ≤ r + 29 ∧ y = c)) → h' x y = h1 x y) → (∀ g : Int, 0 ≤ g → g < h1 w 7 → h' (r + 17 + 1 + g) c = pt_ (fun g => h1 (r + 4 + 1 + g) c) (h1 w 7) left g) → Q.1 (some (0, 0)) nN h') (q1 : ¬ e = 0 → ∀ h' : PH, G h' → (∀ x y : Int, ¬ (x = r + 44 ∨ x = r + 45 ∨ (r + 18 ≤ x ∧ x ≤ r + 29 ∧ y = c)) → h' x y = h1 x y) → (∀ g : Int, 0 ≤ g → g < h1 w 7 → h' (r + 17 + 1 + g) c = pt_ (fun g => h1 (r + 4 + 1 + g) c) (h1 w 7) cl g) → Q.1 (some (0, left - cl)) nN h')  : ∀ (m : Nat) (i : Int) (h : PH), (G h) → (0 ≤ i) → (i + m = h1 w 7) → (∀ x y : Int, ¬ x = r + 44 → h x y = h1 x y) → (∀ g : Int, 0 ≤ g → g < i → h (r + 44) g = h1 (r + 4 + 1 + g) c) → S_ MX5_payClass d bc bs Q 39 [(2, r), (0, c), (0, left), (0, cl), (0, e), (0, i)] [] nN h := by
  intro m
  induction m with
  | zero =>
    intro i h hG i0 i1 fr v1
    have hwv := io_of_5 W
    have hrv := io_of_4 A
    have hwr : w + 36 < r := by omega
    clear hwv hrv
    have hw : h r 14 = w := by rw [fr r 14 (by omega)]; exact hw1
    have en := fr w 7 (by omega)
    refine s_iload dX5_payClass_39 rfl ?_
    refine s_aload_n dX5_payClass_41 rfl ?_
    refine s_getr dX5_payClass_42 fl_X5_46 kl_4 (by decide) rfl A (z := 14) rfl (by first | exact hw | (simp (disch := omega) only [hs_same, hs_ne, fl_in, fl_ne, cp_inn, cp_nee]; exact hw)) (W).1 ?_
    refine s_geti dX5_payClass_45 fl_X5_63 kl_5 (by decide) rfl W (z := 7) rfl ?_
    refine s_icmp_ge (tgt := 73) dX5_payClass_48 (by decide) (by first | exact hG.2 _ _ | exact b01_in _ | assumption | exact ⟨by omega, by omega⟩) (by first | exact hG.2 _ _ | exact b01_in _ | assumption | exact ⟨by omega, by omega⟩) (fun c1 => ?_) (fun c1 => ?_)
    · refine s_aload_n dX5_payClass_73 rfl ?_
      refine s_iload_n dX5_payClass_74 rfl ?_
      refine s_iload dX5_payClass_75 rfl ?_
      refine s_if_eq (tgt := 84) dX5_payClass_77 (by decide) (by first | exact hG.2 _ _ | exact b01_in _ | assumption | exact ⟨by omega, by omega⟩) (fun c2 => ?_) (fun c2 => ?_)
      · refine s_iload_n dX5_payClass_84 rfl ?_
        refine s_callV (d' := d - 1) (bc' := 0) (bs' := 0) (as := [_, _]) dX5_payClass_85 vf_X5_204 (dd_ (by omega) (by decide)) ⟨Nat.zero_le _, Nat.zero_le _⟩ rfl rfl (Nat.le_of_ble_eq_true rfl) kl_4 rfl A ?_
        refine c_X5_parts (by omega) A hw W (by omega) (by omega) cc0 cc1 (by omega) (by omega) (fun g a b => by rw [v1 g a (by omega)]; exact hdu g a (by omega)) hG (fun g a b => by rw [fr _ _ (by omega)]; exact hz g a (by omega)) (fun h2 hG1 fr2 ev2 => ?_)
        refine s_iload dX5_payClass_88 rfl ?_
        refine s_if_eq (tgt := 99) dX5_payClass_90 (by decide) (by first | exact hG1.2 _ _ | exact hG.2 _ _ | exact b01_in _ | assumption | exact ⟨by omega, by omega⟩) (fun c3 => ?_) (fun c3 => ?_)
        · refine s_iconst dX5_payClass_99 ?_
          first
            | (exfalso; omega)
            | exact s_ireturn dX5_payClass_100 rfl (q0 (by omega) _ hG1 (fun x y hx => by rw [fr2 x y (by omega)]; exact fr x y (by omega)) (fun g a b => by rw [ev2 g a (by omega), en]; exact pt_congr (fun x x0 x1 => v1 x x0 (by omega)) g a b))
            | exact s_ireturn dX5_payClass_100 rfl (q1 (by omega) _ hG1 (fun x y hx => by rw [fr2 x y (by omega)]; exact fr x y (by omega)) (fun g a b => by rw [ev2 g a (by omega), en]; exact pt_congr (fun x x0 x1 => v1 x x0 (by omega)) g a b))
        · refine s_iload_n dX5_payClass_93 rfl ?_
          refine s_iload_n dX5_payClass_94 rfl ?_
          refine s_isub dX5_payClass_95 ?_
          refine s_goto (tgt := 100) dX5_payClass_96 (by decide) ?_
          first
            | (exfalso; omega)
            | exact s_ireturn dX5_payClass_100 rfl (q0 (by omega) _ hG1 (fun x y hx => by rw [fr2 x y (by omega)]; exact fr x y (by omega)) (fun g a b => by rw [ev2 g a (by omega), en]; exact pt_congr (fun x x0 x1 => v1 x x0 (by omega)) g a b))
            | exact s_ireturn dX5_payClass_100 rfl (q1 (by omega) _ hG1 (fun x y hx => by rw [fr2 x y (by omega)]; exact fr x y (by omega)) (fun g a b => by rw [ev2 g a (by omega), en]; exact pt_congr (fun x x0 x1 => v1 x x0 (by omega)) g a b))
      · refine s_iload_n dX5_payClass_80 rfl ?_
        refine s_goto (tgt := 85) dX5_payClass_81 (by decide) ?_
        refine s_callV (d' := d - 1) (bc' := 0) (bs' := 0) (as := [_, _]) dX5_payClass_85 vf_X5_204 (dd_ (by omega) (by decide)) ⟨Nat.zero_le _, Nat.zero_le _⟩ rfl rfl (Nat.le_of_ble_eq_true rfl) kl_4 rfl A ?_
        refine c_X5_parts (by omega) A hw W (by omega) (by omega) cc0 cc1 (by omega) (by omega) (fun g a b => by rw [v1 g a (by omega)]; exact hdu g a (by omega)) hG (fun g a b => by rw [fr _ _ (by omega)]; exact hz g a (by omega)) (fun h2 hG2 fr2 ev2 => ?_)
        refine s_iload dX5_payClass_88 rfl ?_
        refine s_if_eq (tgt := 99) dX5_payClass_90 (by decide) (by first | exact hG2.2 _ _ | exact hG.2 _ _ | exact b01_in _ | assumption | exact ⟨by omega, by omega⟩) (fun c4 => ?_) (fun c4 => ?_)
        · refine s_iconst dX5_payClass_99 ?_
          first
            | (exfalso; omega)
            | exact s_ireturn dX5_payClass_100 rfl (q0 (by omega) _ hG2 (fun x y hx => by rw [fr2 x y (by omega)]; exact fr x y (by omega)) (fun g a b => by rw [ev2 g a (by omega), en]; exact pt_congr (fun x x0 x1 => v1 x x0 (by omega)) g a b))
            | exact s_ireturn dX5_payClass_100 rfl (q1 (by omega) _ hG2 (fun x y hx => by rw [fr2 x y (by omega)]; exact fr x y (by omega)) (fun g a b => by rw [ev2 g a (by omega), en]; exact pt_congr (fun x x0 x1 => v1 x x0 (by omega)) g a b))
        · refine s_iload_n dX5_payClass_93 rfl ?_
          refine s_iload_n dX5_payClass_94 rfl ?_
          refine s_isub dX5_payClass_95 ?_
          refine s_goto (tgt := 100) dX5_payClass_96 (by decide) ?_
          first
            | (exfalso; omega)
            | exact s_ireturn dX5_payClass_100 rfl (q0 (by omega) _ hG2 (fun x y hx => by rw [fr2 x y (by omega)]; exact fr x y (by omega)) (fun g a b => by rw [ev2 g a (by omega), en]; exact pt_congr (fun x x0 x1 => v1 x x0 (by omega)) g a b))
            | exact s_ireturn dX5_payClass_100 rfl (q1 (by omega) _ hG2 (fun x y hx => by rw [fr2 x y (by omega)]; exact fr x y (by omega)) (fun g a b => by rw [ev2 g a (by omega), en]; exact pt_congr (fun x x0 x1 => v1 x x0 (by omega)) g a b))
    · exact absurd c1 (by omega)
  | succ m ih =>
    intro i h hG i0 i1 fr v1
    have hwv := io_of_5 W
    have hrv := io_of_4 A
    have hwr : w + 36 < r := by omega
    clear hwv hrv
    have hw : h r 14 = w := by rw [fr r 14 (by omega)]; exact hw1
    have en := fr w 7 (by omega)
    refine s_iload dX5_payClass_39 rfl ?_
    refine s_aload_n dX5_payClass_41 rfl ?_
    refine s_getr dX5_payClass_42 fl_X5_46 kl_4 (by decide) rfl A (z := 14) rfl (by first | exact hw | (simp (disch := omega) only [hs_same, hs_ne, fl_in, fl_ne, cp_inn, cp_nee]; exact hw)) (W).1 ?_
    refine s_geti dX5_payClass_45 fl_X5_63 kl_5 (by decide) rfl W (z := 7) rfl ?_
    refine s_icmp_ge (tgt := 73) dX5_payClass_48 (by decide) (by first | exact hG.2 _ _ | exact b01_in _ | assumption | exact ⟨by omega, by omega⟩) (by first | exact hG.2 _ _ | exact b01_in _ | assumption | exact ⟨by omega, by omega⟩) (fun c1 => ?_) (fun c1 => ?_)
    · exact absurd c1 (by omega)
    · refine s_aload_n dX5_payClass_51 rfl ?_
      refine s_getr dX5_payClass_52 fl_X5_36 kl_4 (by decide) rfl A (z := 16) rfl (rf_4_16 hG.1 A) (rk_4_16 A).1 ?_
      refine s_iload dX5_payClass_55 rfl ?_
      refine s_aload_n dX5_payClass_57 rfl ?_
      refine s_getr dX5_payClass_58 fl_X5_24 kl_4 (by decide) rfl A (z := 3) rfl (rf_4_3 hG.1 A) (rk_4_3 A).1 ?_
      refine s_iload dX5_payClass_61 rfl ?_
      refine s_aaload4 dX5_payClass_63 (rk_4_3 A) (by omega) (by omega) (rw_4_3 hG.1 A (by omega) (by omega)) (rx_4_3 A (by omega) (by omega)).1 ?_
      refine s_iload_n dX5_payClass_64 rfl ?_
      refine s_iaload dX5_payClass_65 (rx_4_3 A (by omega) (by omega)) (by omega) (by omega) ?_
      refine s_iastoreG dX5_payClass_66 (rk_4_16 A) (by omega) (by omega) hG (by first | exact hG.2 _ _ | exact b01_in _ | assumption | exact ⟨by omega, by omega⟩) (fun hG1 => ?_)
      refine s_iinc dX5_payClass_67 rfl (by decide) rfl (L' := [_, _, _, _, _, _]) rfl ?_
      refine s_goto (tgt := 39) dX5_payClass_70 (by decide) ?_
      refine ih (i + 1) _ hG1 (by omega) (by omega) ?_ ?_
      · intro x y hx
        simp (disch := omega) only [hs_same, hs_ne, fl_in, fl_ne, cp_inn, cp_nee]
        exact fr x y hx
      · intro g a b
        by_cases e : g = i
        · subst e
          simp (disch := omega) only [hs_same, hs_ne, fl_in, fl_ne, cp_inn, cp_nee]
          exact fr _ _ (by omega)
        · simp (disch := omega) only [hs_same, hs_ne, fl_in, fl_ne, cp_inn, cp_nee]
          exact v1 g a (by omega)
/-- what the loop is entered with: the heap as it was or with the cut told -/
theorem l2_X5_payClass {h0 h1 : PH} (hd : 3 ≤ d) (A : isO nN r 4) (hw0 : h0 r 14 = w) (W : isO nN w 5) (g0 : 0 ≤ h0 w 7) (g9 : h0 w 7 ≤ 12) {c left e : Int} (cc0 : 0 ≤ c) (cc1 : c < 7) (l0 : 0 ≤ left) (l9 : left ≤ 1000000) (hdu : ∀ g : Int, 0 ≤ g → g < h0 w 7 → 0 ≤ h0 (r + 4 + 1 + g) c ∧ h0 (r + 4 + 1 + g) c ≤ 1000000) (hz : ∀ g : Int, 0 ≤ g → g < h0 w 7 → h0 (r + 17 + 1 + g) c = 0) (q : ∀ h' : PH, G h' → (∀ x y : Int, ¬ (x = r + 44 ∨ x = r + 45 ∨ (r + 18 ≤ x ∧ x ≤ r + 29 ∧ y = c) ∨ (x = r ∧ y = 12)) → h' x y = h0 x y) → (∀ g : Int, 0 ≤ g → g < h0 w 7 → h' (r + 17 + 1 + g) c = pt_ (fun g => h0 (r + 4 + 1 + g) c) (h0 w 7) (min left (cs_ (fun g c => h0 (r + 4 + 1 + g) c) (h0 w 7) c)) g) → h' r 12 = (if ¬ cs_ (fun g c => h0 (r + 4 + 1 + g) c) (h0 w 7) c ≤ left ∧ h0 r 12 = -1 then c else h0 r 12) → Q.1 (some (0, max 0 (left - cs_ (fun g c => h0 (r + 4 + 1 + g) c) (h0 w 7) c))) nN h')
    (e01 : e = 0 ∨ e = 1) (he : ¬ e = 0 ↔ cs_ (fun g c => h0 (r + 4 + 1 + g) c) (h0 w 7) c ≤ left) (hG : G h1) (fr0 : ∀ x y : Int, ¬ (x = r ∧ y = 12) → h1 x y = h0 x y) (hct : h1 r 12 = (if ¬ cs_ (fun g c => h0 (r + 4 + 1 + g) c) (h0 w 7) c ≤ left ∧ h0 r 12 = -1 then c else h0 r 12)) :
    S_ MX5_payClass d bc bs Q 39 [(2, r), (0, c), (0, left), (0, cs_ (fun g c => h0 (r + 4 + 1 + g) c) (h0 w 7) c), (0, e), (0, 0)] [] nN h1 := by
  have hwv := io_of_5 W
  have hrv := io_of_4 A
  have en := fr0 w 7 (by omega)
  have ed : (fun g : Int => h1 (r + 4 + 1 + g) c) = (fun g => h0 (r + 4 + 1 + g) c) := funext fun g => fr0 _ _ (by omega)
  have s0 : 0 ≤ cs_ (fun g c => h0 (r + 4 + 1 + g) c) (h0 w 7) c := sumI_nonneg _ _ (fun i i0 i1 => (hdu i i0 (by omega)).1)
  refine lp_X5_payClass hd A (by rw [fr0 r 14 (by omega)]; exact hw0) W (by omega) (by omega) cc0 cc1 l0 l9 s0 (fun x => he.mp x) e01 (fun g a b => by rw [fr0 _ _ (by omega)]; exact hdu g a (by omega)) (fun g a b => by rw [fr0 _ _ (by omega)]; exact hz g a (by omega)) (fun e h3 hG3 fr3 ev3 => ?_) (fun e h3 hG3 fr3 ev3 => ?_) (h0 w 7).toNat 0 _ hG (by omega) (by omega) (fun _ _ _ => rfl) (fun g a b => by omega)
  · have hn : ¬ cs_ (fun g c => h0 (r + 4 + 1 + g) c) (h0 w 7) c ≤ left := fun x => he.mpr x e
    have := q h3 hG3 (fun x y hx => by rw [fr3 x y (by omega)]; exact fr0 x y (by omega)) (fun g a b => by rw [ev3 g a (by omega), ed, en, Int.min_eq_left (by omega)]) (by rw [fr3 r 12 (by omega)]; exact hct)
    rwa [show max 0 (left - cs_ (fun g c => h0 (r + 4 + 1 + g) c) (h0 w 7) c) = 0 by omega] at this
  · have hn := he.mp e
    have := q h3 hG3 (fun x y hx => by rw [fr3 x y (by omega)]; exact fr0 x y (by omega)) (fun g a b => by rw [ev3 g a (by omega), ed, en, Int.min_eq_right (by omega)]) (by rw [fr3 r 12 (by omega)]; exact hct)
    rwa [show max 0 (left - cs_ (fun g c => h0 (r + 4 + 1 + g) c) (h0 w 7) c) = left - cs_ (fun g c => h0 (r + 4 + 1 + g) c) (h0 w 7) c by omega] at this
set_option maxRecDepth 100000 in
set_option maxHeartbeats 4000000 in
theorem c_X5_payClass  {h0 : PH} (hd : 3 ≤ d) (A : isO nN r 4) (hw0 : h0 r 14 = w) (W : isO nN w 5) (g0 : 0 ≤ h0 w 7) (g9 : h0 w 7 ≤ 12) {c left : Int} (cc0 : 0 ≤ c) (cc1 : c < 7) (l0 : 0 ≤ left) (l9 : left ≤ 1000000) (hdu : ∀ g : Int, 0 ≤ g → g < h0 w 7 → 0 ≤ h0 (r + 4 + 1 + g) c ∧ h0 (r + 4 + 1 + g) c ≤ 1000000) (hz : ∀ g : Int, 0 ≤ g → g < h0 w 7 → h0 (r + 17 + 1 + g) c = 0) (hG : G h0) (q : ∀ h' : PH, G h' → (∀ x y : Int, ¬ (x = r + 44 ∨ x = r + 45 ∨ (r + 18 ≤ x ∧ x ≤ r + 29 ∧ y = c) ∨ (x = r ∧ y = 12)) → h' x y = h0 x y) → (∀ g : Int, 0 ≤ g → g < h0 w 7 → h' (r + 17 + 1 + g) c = pt_ (fun g => h0 (r + 4 + 1 + g) c) (h0 w 7) (min left (cs_ (fun g c => h0 (r + 4 + 1 + g) c) (h0 w 7) c)) g) → h' r 12 = (if ¬ cs_ (fun g c => h0 (r + 4 + 1 + g) c) (h0 w 7) c ≤ left ∧ h0 r 12 = -1 then c else h0 r 12) → Q.1 (some (0, max 0 (left - cs_ (fun g c => h0 (r + 4 + 1 + g) c) (h0 w 7) c))) nN h')  : Cl_ yX5_payClass MX5_payClass d bc bs [(2, r), (0, c), (0, left)] nN h0 Q := by
  refine s_enter pn_X5 rfl (Nat.le_of_ble_eq_true rfl) (L := [(2, _), (0, _), (0, _), (9, 0), (9, 0), (9, 0)]) rfl ?_
  have hwv := io_of_5 W
  have hrv := io_of_4 A
  have hwr : w + 36 < r := by omega
  clear hwv hrv
  have s0 : 0 ≤ cs_ (fun g c => h0 (r + 4 + 1 + g) c) (h0 w 7) c := sumI_nonneg _ _ (fun i i0 i1 => (hdu i i0 (by omega)).1)
  have s1 : cs_ (fun g c => h0 (r + 4 + 1 + g) c) (h0 w 7) c ≤ ((h0 w 7).toNat : Int) * 1000000 := sumI_le _ _ (fun i i0 i1 => (hdu i i0 (by omega)).2)
  refine s_aload_n dX5_payClass_0 rfl ?_
  refine s_iload_n dX5_payClass_1 rfl ?_
  refine s_callV (d' := d - 1) (bc' := 0) (bs' := 0) (as := [_]) dX5_payClass_2 vf_X5_201 (dd_ (by omega) (by decide)) ⟨Nat.zero_le _, Nat.zero_le _⟩ rfl rfl (Nat.le_of_ble_eq_true rfl) kl_4 rfl A ?_
  refine c_X5_dueOfAll (by omega) A hG hw0 W g0 g9 cc0 cc1 ?_
  show S_ MX5_payClass d bc bs Q 5 [(2, r), (0, c), (0, left), (9, 0), (9, 0), (9, 0)] [(0, cs_ (fun g c => h0 (r + 4 + 1 + g) c) (h0 w 7) c)] nN h0
  refine s_istore_n dX5_payClass_5 (by decide) rfl (L' := [_, _, _, _, _, _]) rfl ?_
  refine s_iload_n dX5_payClass_6 rfl ?_
  refine s_iload_n dX5_payClass_7 rfl ?_
  refine s_icmp_gt (tgt := 15) dX5_payClass_8 (by decide) (by first | exact hG.2 _ _ | exact b01_in _ | assumption | exact ⟨by omega, by omega⟩) (by first | exact hG.2 _ _ | exact b01_in _ | assumption | exact ⟨by omega, by omega⟩) (fun c1 => ?_) (fun c1 => ?_)
  · refine s_iconst dX5_payClass_15 ?_
    refine s_istore dX5_payClass_16 (by decide) rfl (L' := [_, _, _, _, _, _]) rfl ?_
    refine s_iload dX5_payClass_18 rfl ?_
    refine s_if_ne (tgt := 36) dX5_payClass_20 (by decide) (by first | exact hG.2 _ _ | exact b01_in _ | assumption | exact ⟨by omega, by omega⟩) (fun c2 => ?_) (fun c2 => ?_)
    · refine s_iconst dX5_payClass_36 ?_
      refine s_istore dX5_payClass_37 (by decide) rfl (L' := [_, _, _, _, _, _]) rfl ?_
      first
        | (exfalso; omega)
        | exact l2_X5_payClass hd A hw0 W g0 g9 cc0 cc1 l0 l9 hdu hz q (by omega) (by omega) hG (fun _ _ _ => rfl) (by rw [if_neg (by omega)])
        | exact l2_X5_payClass hd A hw0 W g0 g9 cc0 cc1 l0 l9 hdu hz q (by omega) (by omega) hG (fun x y hx => by simp (disch := omega) only [hs_same, hs_ne, fl_in, fl_ne, cp_inn, cp_nee]) (by rw [if_pos (by omega)]; simp (disch := omega) only [hs_same, hs_ne, fl_in, fl_ne, cp_inn, cp_nee])
    · refine s_aload_n dX5_payClass_23 rfl ?_
      refine s_geti dX5_payClass_24 fl_X5_101 kl_4 (by decide) rfl A (z := 12) rfl ?_
      refine s_iconst dX5_payClass_27 ?_
      refine s_icmp_ne (tgt := 36) dX5_payClass_28 (by decide) (by first | exact hG.2 _ _ | exact b01_in _ | assumption | exact ⟨by omega, by omega⟩) (by first | exact hG.2 _ _ | exact b01_in _ | assumption | exact ⟨by omega, by omega⟩) (fun c3 => ?_) (fun c3 => ?_)
      · refine s_iconst dX5_payClass_36 ?_
        refine s_istore dX5_payClass_37 (by decide) rfl (L' := [_, _, _, _, _, _]) rfl ?_
        first
          | (exfalso; omega)
          | exact l2_X5_payClass hd A hw0 W g0 g9 cc0 cc1 l0 l9 hdu hz q (by omega) (by omega) hG (fun _ _ _ => rfl) (by rw [if_neg (by omega)])
          | exact l2_X5_payClass hd A hw0 W g0 g9 cc0 cc1 l0 l9 hdu hz q (by omega) (by omega) hG (fun x y hx => by simp (disch := omega) only [hs_same, hs_ne, fl_in, fl_ne, cp_inn, cp_nee]) (by rw [if_pos (by omega)]; simp (disch := omega) only [hs_same, hs_ne, fl_in, fl_ne, cp_inn, cp_nee])
      · refine s_aload_n dX5_payClass_31 rfl ?_
        refine s_iload_n dX5_payClass_32 rfl ?_
        refine s_putiG 12 dX5_payClass_33 fl_X5_101 kl_4 (by decide) rfl rfl A (z := 12) rfl (by decide +kernel) hG (by first | exact hG.2 _ _ | exact b01_in _ | assumption | exact ⟨by omega, by omega⟩) (fun hG1 => ?_)
        refine s_iconst dX5_payClass_36 ?_
        refine s_istore dX5_payClass_37 (by decide) rfl (L' := [_, _, _, _, _, _]) rfl ?_
        first
          | (exfalso; omega)
          | exact l2_X5_payClass hd A hw0 W g0 g9 cc0 cc1 l0 l9 hdu hz q (by omega) (by omega) hG1 (fun _ _ _ => rfl) (by rw [if_neg (by omega)])
          | exact l2_X5_payClass hd A hw0 W g0 g9 cc0 cc1 l0 l9 hdu hz q (by omega) (by omega) hG1 (fun x y hx => by simp (disch := omega) only [hs_same, hs_ne, fl_in, fl_ne, cp_inn, cp_nee]) (by rw [if_pos (by omega)]; simp (disch := omega) only [hs_same, hs_ne, fl_in, fl_ne, cp_inn, cp_nee])
  · refine s_iconst dX5_payClass_11 ?_
    refine s_goto (tgt := 16) dX5_payClass_12 (by decide) ?_
    refine s_istore dX5_payClass_16 (by decide) rfl (L' := [_, _, _, _, _, _]) rfl ?_
    refine s_iload dX5_payClass_18 rfl ?_
    refine s_if_ne (tgt := 36) dX5_payClass_20 (by decide) (by first | exact hG.2 _ _ | exact b01_in _ | assumption | exact ⟨by omega, by omega⟩) (fun c4 => ?_) (fun c4 => ?_)
    · refine s_iconst dX5_payClass_36 ?_
      refine s_istore dX5_payClass_37 (by decide) rfl (L' := [_, _, _, _, _, _]) rfl ?_
      first
        | (exfalso; omega)
        | exact l2_X5_payClass hd A hw0 W g0 g9 cc0 cc1 l0 l9 hdu hz q (by omega) (by omega) hG (fun _ _ _ => rfl) (by rw [if_neg (by omega)])
        | exact l2_X5_payClass hd A hw0 W g0 g9 cc0 cc1 l0 l9 hdu hz q (by omega) (by omega) hG (fun x y hx => by simp (disch := omega) only [hs_same, hs_ne, fl_in, fl_ne, cp_inn, cp_nee]) (by rw [if_pos (by omega)]; simp (disch := omega) only [hs_same, hs_ne, fl_in, fl_ne, cp_inn, cp_nee])
    · refine s_aload_n dX5_payClass_23 rfl ?_
      refine s_geti dX5_payClass_24 fl_X5_101 kl_4 (by decide) rfl A (z := 12) rfl ?_
      refine s_iconst dX5_payClass_27 ?_
      refine s_icmp_ne (tgt := 36) dX5_payClass_28 (by decide) (by first | exact hG.2 _ _ | exact b01_in _ | assumption | exact ⟨by omega, by omega⟩) (by first | exact hG.2 _ _ | exact b01_in _ | assumption | exact ⟨by omega, by omega⟩) (fun c5 => ?_) (fun c5 => ?_)
      · refine s_iconst dX5_payClass_36 ?_
        refine s_istore dX5_payClass_37 (by decide) rfl (L' := [_, _, _, _, _, _]) rfl ?_
        first
          | (exfalso; omega)
          | exact l2_X5_payClass hd A hw0 W g0 g9 cc0 cc1 l0 l9 hdu hz q (by omega) (by omega) hG (fun _ _ _ => rfl) (by rw [if_neg (by omega)])
          | exact l2_X5_payClass hd A hw0 W g0 g9 cc0 cc1 l0 l9 hdu hz q (by omega) (by omega) hG (fun x y hx => by simp (disch := omega) only [hs_same, hs_ne, fl_in, fl_ne, cp_inn, cp_nee]) (by rw [if_pos (by omega)]; simp (disch := omega) only [hs_same, hs_ne, fl_in, fl_ne, cp_inn, cp_nee])
      · refine s_aload_n dX5_payClass_31 rfl ?_
        refine s_iload_n dX5_payClass_32 rfl ?_
        refine s_putiG 12 dX5_payClass_33 fl_X5_101 kl_4 (by decide) rfl rfl A (z := 12) rfl (by decide +kernel) hG (by first | exact hG.2 _ _ | exact b01_in _ | assumption | exact ⟨by omega, by omega⟩) (fun hG2 => ?_)
        refine s_iconst dX5_payClass_36 ?_
        refine s_istore dX5_payClass_37 (by decide) rfl (L' := [_, _, _, _, _, _]) rfl ?_
        first
          | (exfalso; omega)
          | exact l2_X5_payClass hd A hw0 W g0 g9 cc0 cc1 l0 l9 hdu hz q (by omega) (by omega) hG2 (fun _ _ _ => rfl) (by rw [if_neg (by omega)])
          | exact l2_X5_payClass hd A hw0 W g0 g9 cc0 cc1 l0 l9 hdu hz q (by omega) (by omega) hG2 (fun x y hx => by simp (disch := omega) only [hs_same, hs_ne, fl_in, fl_ne, cp_inn, cp_nee]) (by rw [if_pos (by omega)]; simp (disch := omega) only [hs_same, hs_ne, fl_in, fl_ne, cp_inn, cp_nee])
end X5F
