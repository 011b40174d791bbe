/-! what is reckoned speaks of cells 0 to 9 of the picture alone -/
def ZE (z z' : PH) : Prop := z' 0 = z 0 ∧ z' 1 = z 1 ∧ z' 2 = z 2 ∧ z' 3 = z 3 ∧ z' 5 = z 5 ∧ z' 6 = z 6 ∧ z' 7 = z 7 ∧ z' 8 = z 8 ∧ z' 9 = z 9
theorem zdd_e {z z' : PH} (E : ZE z z') : zdd z' = zdd z := by
  have e := E
  obtain ⟨e0, e1, e2, e3, e5, e6, e7, e8, e9⟩ := e
  funext x0
  unfold zdd
  simp only [e0, e1, e2, e3, e5, e6, e7, e8, e9]
theorem zlv_e {z z' : PH} (E : ZE z z') : zlv z' = zlv z := by
  have e := E
  obtain ⟨e0, e1, e2, e3, e5, e6, e7, e8, e9⟩ := e
  funext x0
  unfold zlv
  simp only [e0, e1, e2, e3, e5, e6, e7, e8, e9, zdd_e E]
theorem zhr_e {z z' : PH} (E : ZE z z') : zhr z' = zhr z := by
  have e := E
  obtain ⟨e0, e1, e2, e3, e5, e6, e7, e8, e9⟩ := e
  unfold zhr
  simp only [e0, e1, e2, e3, e5, e6, e7, e8, e9, zdd_e E, zlv_e E]
theorem zkn_e {z z' : PH} (E : ZE z z') : zkn z' = zkn z := by
  have e := E
  obtain ⟨e0, e1, e2, e3, e5, e6, e7, e8, e9⟩ := e
  funext x0
  unfold zkn
  simp only [e0, e1, e2, e3, e5, e6, e7, e8, e9, zdd_e E, zlv_e E, zhr_e E]
theorem zbr_e {z z' : PH} (E : ZE z z') : zbr z' = zbr z := by
  have e := E
  obtain ⟨e0, e1, e2, e3, e5, e6, e7, e8, e9⟩ := e
  funext x0
  unfold zbr
  simp only [e0, e1, e2, e3, e5, e6, e7, e8, e9, zdd_e E, zlv_e E, zhr_e E, zkn_e E]
theorem zlp_e {z z' : PH} (E : ZE z z') : zlp z' = zlp z := by
  have e := E
  obtain ⟨e0, e1, e2, e3, e5, e6, e7, e8, e9⟩ := e
  funext x0
  unfold zlp
  simp only [e0, e1, e2, e3, e5, e6, e7, e8, e9, zdd_e E, zlv_e E, zhr_e E, zkn_e E, zbr_e E]
theorem zes_e {z z' : PH} (E : ZE z z') : zes z' = zes z := by
  have e := E
  obtain ⟨e0, e1, e2, e3, e5, e6, e7, e8, e9⟩ := e
  unfold zes
  simp only [e0, e1, e2, e3, e5, e6, e7, e8, e9, zdd_e E, zlv_e E, zhr_e E, zkn_e E, zbr_e E, zlp_e E]
theorem zav_e {z z' : PH} (E : ZE z z') : zav z' = zav z := by
  have e := E
  obtain ⟨e0, e1, e2, e3, e5, e6, e7, e8, e9⟩ := e
  unfold zav
  simp only [e0, e1, e2, e3, e5, e6, e7, e8, e9, zdd_e E, zlv_e E, zhr_e E, zkn_e E, zbr_e E, zlp_e E, zes_e E]
theorem zfl_e {z z' : PH} (E : ZE z z') : zfl z' = zfl z := by
  have e := E
  obtain ⟨e0, e1, e2, e3, e5, e6, e7, e8, e9⟩ := e
  funext x0 x1
  unfold zfl
  simp only [e0, e1, e2, e3, e5, e6, e7, e8, e9, zdd_e E, zlv_e E, zhr_e E, zkn_e E, zbr_e E, zlp_e E, zes_e E, zav_e E]
theorem zdu_e {z z' : PH} (E : ZE z z') : zdu z' = zdu z := by
  have e := E
  obtain ⟨e0, e1, e2, e3, e5, e6, e7, e8, e9⟩ := e
  funext x0 x1
  unfold zdu
  simp only [e0, e1, e2, e3, e5, e6, e7, e8, e9, zdd_e E, zlv_e E, zhr_e E, zkn_e E, zbr_e E, zlp_e E, zes_e E, zav_e E, zfl_e E]
theorem zlate_e {z z' : PH} (E : ZE z z') : zlate z' = zlate z := by
  have e := E
  obtain ⟨e0, e1, e2, e3, e5, e6, e7, e8, e9⟩ := e
  unfold zlate
  simp only [e0, e1, e2, e3, e5, e6, e7, e8, e9, zdd_e E, zlv_e E, zhr_e E, zkn_e E, zbr_e E, zlp_e E, zes_e E, zav_e E, zfl_e E, zdu_e E]
theorem zd5_e {z z' : PH} (E : ZE z z') : zd5 z' = zd5 z := by
  have e := E
  obtain ⟨e0, e1, e2, e3, e5, e6, e7, e8, e9⟩ := e
  unfold zd5
  simp only [e0, e1, e2, e3, e5, e6, e7, e8, e9, zdd_e E, zlv_e E, zhr_e E, zkn_e E, zbr_e E, zlp_e E, zes_e E, zav_e E, zfl_e E, zdu_e E, zlate_e E]
theorem zrs_e {z z' : PH} (E : ZE z z') : zrs z' = zrs z := by
  have e := E
  obtain ⟨e0, e1, e2, e3, e5, e6, e7, e8, e9⟩ := e
  unfold zrs
  simp only [e0, e1, e2, e3, e5, e6, e7, e8, e9, zdd_e E, zlv_e E, zhr_e E, zkn_e E, zbr_e E, zlp_e E, zes_e E, zav_e E, zfl_e E, zdu_e E, zlate_e E, zd5_e E]
theorem zct_e {z z' : PH} (E : ZE z z') : zct z' = zct z := by
  have e := E
  obtain ⟨e0, e1, e2, e3, e5, e6, e7, e8, e9⟩ := e
  unfold zct
  simp only [e0, e1, e2, e3, e5, e6, e7, e8, e9, zdd_e E, zlv_e E, zhr_e E, zkn_e E, zbr_e E, zlp_e E, zes_e E, zav_e E, zfl_e E, zdu_e E, zlate_e E, zd5_e E, zrs_e E]
theorem zwr_e {z z' : PH} (E : ZE z z') : zwr z' = zwr z := by
  have e := E
  obtain ⟨e0, e1, e2, e3, e5, e6, e7, e8, e9⟩ := e
  unfold zwr
  simp only [e0, e1, e2, e3, e5, e6, e7, e8, e9, zdd_e E, zlv_e E, zhr_e E, zkn_e E, zbr_e E, zlp_e E, zes_e E, zav_e E, zfl_e E, zdu_e E, zlate_e E, zd5_e E, zrs_e E, zct_e E]
theorem zp6_e {z z' : PH} (E : ZE z z') : zp6 z' = zp6 z := by
  have e := E
  obtain ⟨e0, e1, e2, e3, e5, e6, e7, e8, e9⟩ := e
  funext x0
  unfold zp6
  simp only [e0, e1, e2, e3, e5, e6, e7, e8, e9, zdd_e E, zlv_e E, zhr_e E, zkn_e E, zbr_e E, zlp_e E, zes_e E, zav_e E, zfl_e E, zdu_e E, zlate_e E, zd5_e E, zrs_e E, zct_e E, zwr_e E]
theorem zgt_e {z z' : PH} (E : ZE z z') : zgt z' = zgt z := by
  have e := E
  obtain ⟨e0, e1, e2, e3, e5, e6, e7, e8, e9⟩ := e
  funext x0 x1
  unfold zgt
  simp only [e0, e1, e2, e3, e5, e6, e7, e8, e9, zdd_e E, zlv_e E, zhr_e E, zkn_e E, zbr_e E, zlp_e E, zes_e E, zav_e E, zfl_e E, zdu_e E, zlate_e E, zd5_e E, zrs_e E, zct_e E, zwr_e E, zp6_e E]
theorem zde_e {z z' : PH} (E : ZE z z') : zde z' = zde z := by
  have e := E
  obtain ⟨e0, e1, e2, e3, e5, e6, e7, e8, e9⟩ := e
  funext x0 x1
  unfold zde
  simp only [e0, e1, e2, e3, e5, e6, e7, e8, e9, zdd_e E, zlv_e E, zhr_e E, zkn_e E, zbr_e E, zlp_e E, zes_e E, zav_e E, zfl_e E, zdu_e E, zlate_e E, zd5_e E, zrs_e E, zct_e E, zwr_e E, zp6_e E, zgt_e E]
theorem zsw_e {z z' : PH} (E : ZE z z') : zsw z' = zsw z := by
  have e := E
  obtain ⟨e0, e1, e2, e3, e5, e6, e7, e8, e9⟩ := e
  unfold zsw
  simp only [e0, e1, e2, e3, e5, e6, e7, e8, e9, zdd_e E, zlv_e E, zhr_e E, zkn_e E, zbr_e E, zlp_e E, zes_e E, zav_e E, zfl_e E, zdu_e E, zlate_e E, zd5_e E, zrs_e E, zct_e E, zwr_e E, zp6_e E, zgt_e E, zde_e E]
theorem zin_e {z z' : PH} (E : ZE z z') : zin z' = zin z := by
  have e := E
  obtain ⟨e0, e1, e2, e3, e5, e6, e7, e8, e9⟩ := e
  unfold zin
  simp only [e0, e1, e2, e3, e5, e6, e7, e8, e9, zdd_e E, zlv_e E, zhr_e E, zkn_e E, zbr_e E, zlp_e E, zes_e E, zav_e E, zfl_e E, zdu_e E, zlate_e E, zd5_e E, zrs_e E, zct_e E, zwr_e E, zp6_e E, zgt_e E, zde_e E, zsw_e E]
theorem zbo_e {z z' : PH} (E : ZE z z') : zbo z' = zbo z := by
  have e := E
  obtain ⟨e0, e1, e2, e3, e5, e6, e7, e8, e9⟩ := e
  unfold zbo
  simp only [e0, e1, e2, e3, e5, e6, e7, e8, e9, zdd_e E, zlv_e E, zhr_e E, zkn_e E, zbr_e E, zlp_e E, zes_e E, zav_e E, zfl_e E, zdu_e E, zlate_e E, zd5_e E, zrs_e E, zct_e E, zwr_e E, zp6_e E, zgt_e E, zde_e E, zsw_e E, zin_e E]
theorem ztk_e {z z' : PH} (E : ZE z z') : ztk z' = ztk z := by
  have e := E
  obtain ⟨e0, e1, e2, e3, e5, e6, e7, e8, e9⟩ := e
  funext x0 x1
  unfold ztk
  simp only [e0, e1, e2, e3, e5, e6, e7, e8, e9, zdd_e E, zlv_e E, zhr_e E, zkn_e E, zbr_e E, zlp_e E, zes_e E, zav_e E, zfl_e E, zdu_e E, zlate_e E, zd5_e E, zrs_e E, zct_e E, zwr_e E, zp6_e E, zgt_e E, zde_e E, zsw_e E, zin_e E, zbo_e E]
theorem zih_e {z z' : PH} (E : ZE z z') : zih z' = zih z := by
  have e := E
  obtain ⟨e0, e1, e2, e3, e5, e6, e7, e8, e9⟩ := e
  funext x0
  unfold zih
  simp only [e0, e1, e2, e3, e5, e6, e7, e8, e9, zdd_e E, zlv_e E, zhr_e E, zkn_e E, zbr_e E, zlp_e E, zes_e E, zav_e E, zfl_e E, zdu_e E, zlate_e E, zd5_e E, zrs_e E, zct_e E, zwr_e E, zp6_e E, zgt_e E, zde_e E, zsw_e E, zin_e E, zbo_e E, ztk_e E]
theorem zta_e {z z' : PH} (E : ZE z z') : zta z' = zta z := by
  have e := E
  obtain ⟨e0, e1, e2, e3, e5, e6, e7, e8, e9⟩ := e
  funext x0
  unfold zta
  simp only [e0, e1, e2, e3, e5, e6, e7, e8, e9, zdd_e E, zlv_e E, zhr_e E, zkn_e E, zbr_e E, zlp_e E, zes_e E, zav_e E, zfl_e E, zdu_e E, zlate_e E, zd5_e E, zrs_e E, zct_e E, zwr_e E, zp6_e E, zgt_e E, zde_e E, zsw_e E, zin_e E, zbo_e E, ztk_e E, zih_e E]
theorem rd_e {h z z' : PH} {r : Int} (E : ZE z z') (R : RD_ h r z) : RD_ h r z' := by
  unfold RD_
  rw [E.1, zlv_e E, zlp_e E, zfl_e E, zde_e E, zgt_e E, ztk_e E, zih_e E, zes_e E, zav_e E, zrs_e E, zin_e E, zbo_e E, zct_e E, zhr_e E]
  exact R
theorem zi_e {z z' : PH} (E : ZE z z') (I : ZI z) : ZI z' := by
  obtain ⟨e0, e1, e2, e3, e5, e6, e7, e8, e9⟩ := E
  unfold ZI ZF ZW
  rw [e0, e1, e2, e3, e5, e6, e7, e8, e9]
  exact I
theorem pr_e {h z z' : PH} {w f : Int} (E : ZE z z') (P : PR_ h w f z) : PR_ h w f z' := by
  have k := zkn_e E
  obtain ⟨e0, e1, e2, e3, e5, e6, e7, e8, e9⟩ := E
  unfold PR_
  rw [e0, e1, e2, e3, e5, e6, e7, e8, e9, k]
  exact P
def BY_ (z : PH) : Prop := (0 ≤ z 50 0 ∧ z 50 0 ≤ 400) ∧ (∀ k : Int, 0 ≤ k → k < 400 → -128 ≤ z 51 k ∧ z 51 k < 128) ∧ (-1 ≤ z 52 0 ∧ z 52 0 ≤ 400) ∧ (0 ≤ z 54 0 ∧ z 54 0 ≤ 480) ∧ (∀ k : Int, 0 ≤ k → k < z 54 0 → 0 ≤ z 55 k ∧ z 55 k < 128)
/-- the tape, the fault, what is written have changed -/
theorem cr_oth {h h' z z' : PH} (C : CR_ h z) (hG : G h') (E : ∀ x : Int, ¬ x = 50 → ¬ x = 51 → ¬ x = 52 → ¬ x = 54 → ¬ x = 55 → z' x = z x) (B : BY_ z') (f : ∀ x y : Int, 3 ≤ x → x ≤ 194 → h' x y = h x y) (f3 : h' 0 3 = h 0 3) (f7 : h' 0 7 = h 0 7) (f2 : h' 2 0 = h 2 0) (tp : h' 0 1 = z' 50 0 ∧ ∀ k : Int, 0 ≤ k → k < 400 → h' 1 k = z' 51 k) (fa : h' 2 2 = z' 52 0) (cs : CS_ h' z') : CR_ h' z' := by
  obtain ⟨-, c1, c2, c3, c4, c5, c6, c7, c8, c9, c10⟩ := C
  have EE : ZE z z' := by
    unfold ZE
    refine ⟨?_, ?_, ?_, ?_, ?_, ?_, ?_, ?_, ?_⟩ <;> exact E _ (by omega) (by omega) (by omega) (by omega) (by omega)
  have hT := c1.2.1
  have hP := c1.2.2.1
  have e53 : z' 53 = z 53 := E _ (by omega) (by omega) (by omega) (by omega) (by omega)
  have e60 : ∀ x : Int, 60 ≤ x → z' x = z x := fun x hx => E _ (by omega) (by omega) (by omega) (by omega) (by omega)
  have eN : ∀ x : Int, x < 50 → z' x = z x := fun x hx => E _ (by omega) (by omega) (by omega) (by omega) (by omega)
  refine ⟨hG, zi_e EE c1, ?_, ?_, ?_, ?_, tp, fa, ?_, cs, ?_⟩
  · obtain ⟨d1, d2, d3, d4, d5, d6, d7, d8, d9⟩ := c2
    obtain ⟨b1, b2, b3, b4, b5⟩ := B
    refine ⟨b1, b2, b3, fun t a b => ?_, fun p a b => ?_, by rw [e53]; exact d6, fun j a b => ?_, b4, b5⟩
    · rw [eN 0 (by omega)] at b
      rw [eN 10 (by omega), eN (20 + t) (by omega)]
      exact d4 t a b
    · rw [eN 0 (by omega)] at b
      rw [eN 11 (by omega), eN (30 + p) (by omega)]
      exact d5 p a b
    · rw [e53] at b
      rw [e60 _ (by omega)]
      exact d7 j a b
  · rw [f3, f2]
    exact c3
  · rw [f3]
    exact pr_e EE (PR_to c4 (fun x y a b => f x y (by rcases c3 with q | q <;> omega) (by rcases c3 with q | q <;> omega)) (fun y => f _ _ (by omega) (by omega)))
  · rw [f3]
    refine ⟨fun t a b => ?_, fun t a b => ?_⟩
    · rw [eN 0 (by omega)] at b
      have q := c5.1 t a b
      refine ⟨by rw [f _ _ (by rcases c3 with q | q <;> omega) (by rcases c3 with q | q <;> omega), eN 10 (by omega)]; exact q.1, fun j j0 j1 => ?_⟩
      rw [eN 10 (by omega)] at j1
      rw [f _ _ (by rcases c3 with q | q <;> omega) (by rcases c3 with q | q <;> omega), eN (20 + t) (by omega)]
      exact q.2 j j0 j1
    · rw [eN 0 (by omega)] at b
      have q := c5.2 t a b
      refine ⟨by rw [f _ _ (by rcases c3 with q | q <;> omega) (by rcases c3 with q | q <;> omega), eN 11 (by omega)]; exact q.1, fun j j0 j1 => ?_⟩
      rw [eN 11 (by omega)] at j1
      rw [f _ _ (by rcases c3 with q | q <;> omega) (by rcases c3 with q | q <;> omega), eN (30 + t) (by omega)]
      exact q.2 j j0 j1
  · obtain ⟨a1, a2, a3⟩ := c8
    refine ⟨by rw [f _ _ (by omega) (by omega), e53]; exact a1, by rw [f _ _ (by omega) (by omega)]; exact a2, fun j k j0 j1 k0 k1 => ?_⟩
    rw [e53] at j1
    rw [f 81 1 (by omega) (by omega), f _ _ (by omega) (by omega), e53, e60 _ (by omega)]
    exact a3 j k j0 j1 k0 k1
  · rw [CD_, f7, f3]
    refine ⟨c10.1, fun s => ?_⟩
    obtain ⟨a1, a2⟩ := c10.2 s
    refine ⟨by rw [f _ _ (by omega) (by omega)]; exact a1, rd_e EE (RD_to a2 c1 (fun x y a b => f x y (by omega) (by omega)))⟩
/-- one more byte on the tape -/
def zbyte (z : PH) (v : Int) : PH := fun x => if x = 51 then fu_ (z 51) (z 50 0) (Int.bmod v 256) else if x = 50 then fun _ => z 50 0 + 1 else z x
def zfour (z : PH) (n : Int) : PH := zbyte (zbyte (zbyte (zbyte z (n / 2 ^ (24 : Int).toNat)) (n / 2 ^ (16 : Int).toNat)) (n / 2 ^ (8 : Int).toNat)) (n / 2 ^ (0 : Int).toNat)
theorem zbyte_50 {z : PH} {v : Int} : zbyte z v 50 0 = z 50 0 + 1 := by
  unfold zbyte
  rw [if_neg (by omega), if_pos rfl]
theorem zbyte_51 {z : PH} {v : Int} : zbyte z v 51 = fu_ (z 51) (z 50 0) (Int.bmod v 256) := by
  unfold zbyte
  rw [if_pos rfl]
theorem zbyte_ne {z : PH} {v x : Int} (a : ¬ x = 50) (b : ¬ x = 51) : zbyte z v x = z x := by
  unfold zbyte
  rw [if_neg b, if_neg a]
theorem zfour_50 {z : PH} {n : Int} : zfour z n 50 0 = z 50 0 + 4 := by
  unfold zfour
  rw [zbyte_50, zbyte_50, zbyte_50, zbyte_50]
  omega
def zfeed (z : PH) (a b c d e : Int) : PH := zfour (zfour (zfour (zfour (zfour z a) b) c) d) e
def zend (z : PH) (n : Int) : PH := fun x => if x = 50 then fun _ => n else z x
theorem by_of {z : PH} (B : ZB z) : BY_ z := by
  obtain ⟨d1, d2, d3, d4, d5, d6, d7, d8, d9⟩ := B
  exact ⟨d1, d2, d3, d8, d9⟩
theorem bm_by (v : Int) : -128 ≤ Int.bmod v 256 ∧ Int.bmod v 256 < 128 := by
  have h1 := Int.le_bmod (x := v) (m := 256) (by decide)
  have h2 := Int.bmod_lt (x := v) (m := 256) (by decide)
  omega
theorem cr_byte {h h' z : PH} {v : Int} (C : CR_ h z) (hG : G h') (l : z 50 0 < 400) (f : ∀ x y : Int, ¬ (x = 0 ∧ y = 1) → ¬ (x = 1 ∧ y = z 50 0) → h' x y = h x y) (f1 : h' 0 1 = z 50 0 + 1) (f2 : h' 1 (z 50 0) = Int.bmod v 256) : CR_ h' (zbyte z v) := by
  have B := by_of (cr_b C)
  have b1 := B.1
  have tp := C.2.2.2.2.2.2.1
  have cs := C.2.2.2.2.2.2.2.2.2.1
  have fa := C.2.2.2.2.2.2.2.1
  refine cr_oth C hG (fun x a b _ _ _ => zbyte_ne a b) ⟨by rw [zbyte_50]; omega, fun k a b => ?_, by rw [zbyte_ne (by omega) (by omega)]; exact B.2.2.1, by rw [zbyte_ne (by omega) (by omega)]; exact B.2.2.2.1, by rw [zbyte_ne (by omega) (by omega), zbyte_ne (by omega) (by omega)]; exact B.2.2.2.2⟩ (fun x y a b => f x y (by omega) (by omega)) (f _ _ (by omega) (by omega)) (f _ _ (by omega) (by omega)) (f _ _ (by omega) (by omega)) ⟨by rw [f1, zbyte_50], fun k a b => ?_⟩ (by rw [f _ _ (by omega) (by omega), zbyte_ne (by omega) (by omega)]; exact fa) ?_
  · rw [zbyte_51]
    unfold fu_
    split
    · exact bm_by v
    · exact B.2.1 k a b
  · rw [zbyte_51]
    unfold fu_
    split
    · rename_i e
      rw [e]
      exact f2
    · rename_i e
      rw [f _ _ (by omega) (fun q => e q.2)]
      exact tp.2 k a b
  · obtain ⟨a1, a2, a3, a4, a5, a6⟩ := cs
    unfold CS_
    rw [zbyte_ne (by omega) (by omega), zbyte_ne (by omega) (by omega)]
    refine ⟨by rw [f _ _ (by omega) (by omega)]; exact a1, fun k a b => by rw [f _ _ (by omega) (by omega)]; exact a2 k a b, ?_, ?_, ?_, ?_⟩
    · rw [f _ _ (by omega) (by omega)]; exact a3
    · rw [f _ _ (by omega) (by omega)]; exact a4
    · rw [f _ _ (by omega) (by omega)]; exact a5
    · rw [f _ _ (by omega) (by omega)]; exact a6
theorem cr_end {h h' z : PH} {n : Int} (C : CR_ h z) (hG : G h') (n0 : 0 ≤ n) (n1 : n ≤ 400) (f : ∀ x y : Int, ¬ (x = 0 ∧ y = 1) → h' x y = h x y) (f1 : h' 0 1 = n) : CR_ h' (zend z n) := by
  have B := by_of (cr_b C)
  have tp := C.2.2.2.2.2.2.1
  have cs := C.2.2.2.2.2.2.2.2.2.1
  have fa := C.2.2.2.2.2.2.2.1
  have e50 : zend z n 50 0 = n := by
    unfold zend
    rw [if_pos rfl]
  have ene : ∀ x : Int, ¬ x = 50 → zend z n x = z x := fun x hx => by
    unfold zend
    rw [if_neg hx]
  refine cr_oth C hG (fun x a b _ _ _ => ene x a) ⟨by rw [e50]; omega, by rw [ene _ (by omega)]; exact B.2.1, by rw [ene _ (by omega)]; exact B.2.2.1, by rw [ene _ (by omega)]; exact B.2.2.2.1, by rw [ene _ (by omega), ene _ (by omega)]; exact B.2.2.2.2⟩ (fun x y a b => f x y (by omega)) (f _ _ (by omega)) (f _ _ (by omega)) (f _ _ (by omega)) ⟨by rw [f1, e50], fun k a b => by rw [ene _ (by omega), f _ _ (by omega)]; exact tp.2 k a b⟩ (by rw [f _ _ (by omega), ene _ (by omega)]; exact fa) ?_
  obtain ⟨a1, a2, a3, a4, a5, a6⟩ := cs
  unfold CS_
  rw [ene _ (by omega), ene _ (by omega)]
  refine ⟨by rw [f _ _ (by omega)]; exact a1, fun k a b => by rw [f _ _ (by omega)]; exact a2 k a b, ?_, ?_, ?_, ?_⟩
  · rw [f _ _ (by omega)]; exact a3
  · rw [f _ _ (by omega)]; exact a4
  · rw [f _ _ (by omega)]; exact a5
  · rw [f _ _ (by omega)]; exact a6
