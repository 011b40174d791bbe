/-! WillHouse: facts put, kept, supposed -/
section X8E
variable {d bc bs : Nat} {Q : PQ} {h z : PH}
/-- the facts are what z tells, and the reckoning is stale -/
def AC_ (h0 h z : PH) : Prop := CR_ h z ∧ h 0 7 = 1 ∧ FC h0 h
/-- what is supposed is F -/
def SU_ (h0 h z : PH) (F : Int → Int) : Prop := CR_ h z ∧ FC h0 h ∧ ∀ k : Int, 0 ≤ k → k < 61 → h (0 + 146 + 1) k = F k
theorem zput_put (z : PH) (F G : Int → Int) : zput (zput z F) G = zput z G := by
  funext x
  unfold zput
  split <;> rfl
theorem zi_in {z : PH} {v : Int} (a : -1 ≤ v) (b : v ≤ 99999) : inI v := ⟨by omega, by omega⟩
theorem cf_sold {t p v : Int} {h0 : PH} (C : AC_ h0 h z) (t0 : 0 ≤ t) (t1 : t < z 0 0) (p0 : 1 ≤ p) (p1 : p ≤ 9999) (v0 : 0 ≤ v) (v1 : v ≤ p) (hc : z 1 56 + p - v ≤ 99999) (k : ∀ h1 : PH, AC_ h0 h1 (zput z (fsold (z 1) t p v)) → Q.1 none nN h1) : Cl_ yX2_putSold MX2_putSold d bc bs [(2, 0 + 79), (0, t), (0, p), (0, v)] nN h Q := by
  have hG := cr_g C.1
  have I := cr_i C.1
  have a4 := C.1.2.2.2.2.1.2.1
  have hT := I.2.1
  have hP := I.2.2.1
  have hN := I.2.2.2.1
  have b6 := I.1.2.2.1
  have a56 := a4 56 (by omega) (by omega)
  refine c_X2_putSold (rk_6_4 io_0) hG t0 (by omega) ⟨by omega, by omega⟩ ⟨by omega, by omega⟩ ⟨by omega, by omega⟩ (k _ ?_)
  refine ⟨cr_facts C.1 ?_ C.2.1 (fun x y hx => ?_) (fun x x0 x1 => ?_) ?_, ?_, fun x y hx => ?_⟩
  · exact (g_putA (g_putA (g_putA (g_putA hG (rk_1_0 (rk_6_4 io_0)) (by decide) (by first | exact ⟨by omega, by omega⟩ | exact hG.2 _ _)) (rk_1_0 (rk_6_4 io_0)) (by decide) (by first | exact ⟨by omega, by omega⟩ | exact hG.2 _ _)) (rk_1_0 (rk_6_4 io_0)) (by decide) (by first | exact ⟨by omega, by omega⟩ | exact hG.2 _ _)) (rk_1_0 (rk_6_4 io_0)) (by decide) (by first | exact ⟨by omega, by omega⟩ | exact hG.2 _ _))
  · rw [hs_oth hx, hs_oth hx, hs_oth hx, hs_oth hx]
  · have a5 := a4 x x0 x1
    simp only [hs_, fu_, fsold, flost, a5, a56, ↓reduceIte]
  · exact zf_sold I.1 t0 (by omega) p0 p1 v0 v1 hc
  · rw [hs_oth (by omega), hs_oth (by omega), hs_oth (by omega), hs_oth (by omega)]
    exact C.2.1
  · rw [hs_oth (by omega), hs_oth (by omega), hs_oth (by omega), hs_oth (by omega)]
    exact C.2.2 x y hx
theorem cu_sold {t p v : Int} {h0 : PH} {F : Int → Int} (C : SU_ h0 h z F) (t0 : 0 ≤ t) (t1 : t < z 0 0) (p0 : 1 ≤ p) (p1 : p ≤ 9999) (v0 : 0 ≤ v) (v1 : v ≤ p) (hF : 0 ≤ F 56 ∧ F 56 ≤ 99999) (k : ∀ h1 : PH, SU_ h0 h1 z (fsold F t p v) → Q.1 none nN h1) : Cl_ yX2_putSold MX2_putSold d bc bs [(2, 0 + 146), (0, t), (0, p), (0, v)] nN h Q := by
  have hG := cr_g C.1
  have I := cr_i C.1
  have a4 := C.2.2
  have hT := I.2.1
  have hP := I.2.2.1
  have hN := I.2.2.2.1
  have a56 := a4 56 (by omega) (by omega)
  refine c_X2_putSold (rk_6_8 io_0) hG t0 (by omega) ⟨by omega, by omega⟩ ⟨by omega, by omega⟩ ⟨by omega, by omega⟩ (k _ ?_)
  refine ⟨cr_sup C.1 ?_ (fun x y hx => ?_), fun x y hx => ?_, fun x x0 x1 => ?_⟩
  · exact (g_putA (g_putA (g_putA (g_putA hG (rk_1_0 (rk_6_8 io_0)) (by decide) (by first | exact ⟨by omega, by omega⟩ | exact hG.2 _ _)) (rk_1_0 (rk_6_8 io_0)) (by decide) (by first | exact ⟨by omega, by omega⟩ | exact hG.2 _ _)) (rk_1_0 (rk_6_8 io_0)) (by decide) (by first | exact ⟨by omega, by omega⟩ | exact hG.2 _ _)) (rk_1_0 (rk_6_8 io_0)) (by decide) (by first | exact ⟨by omega, by omega⟩ | exact hG.2 _ _))
  · rw [hs_oth (by omega), hs_oth (by omega), hs_oth (by omega), hs_oth (by omega)]
  · rw [hs_oth (by omega), hs_oth (by omega), hs_oth (by omega), hs_oth (by omega)]
    exact C.2.1 x y hx
  · have a5 := a4 x x0 x1
    simp only [hs_, fu_, fsold, flost, a5, a56, ↓reduceIte]
theorem cf_worth {t v : Int} {h0 : PH} (C : AC_ h0 h z) (t0 : 0 ≤ t) (t1 : t < z 0 0) (v0 : 0 ≤ v) (v1 : v ≤ 9999) (k : ∀ h1 : PH, AC_ h0 h1 (zput z (fu_ (z 1) t v)) → Q.1 none nN h1) : Cl_ yX2_putWorth MX2_putWorth d bc bs [(2, 0 + 79), (0, t), (0, v)] nN h Q := by
  have hG := cr_g C.1
  have I := cr_i C.1
  have a4 := C.1.2.2.2.2.1.2.1
  have hT := I.2.1
  have hP := I.2.2.1
  have hN := I.2.2.2.1
  have b6 := I.1.2.2.1
  have a56 := a4 56 (by omega) (by omega)
  refine c_X2_putWorth (rk_6_4 io_0) hG t0 (by omega) ⟨by omega, by omega⟩ (k _ ?_)
  refine ⟨cr_facts C.1 ?_ C.2.1 (fun x y hx => ?_) (fun x x0 x1 => ?_) ?_, ?_, fun x y hx => ?_⟩
  · exact (g_putA hG (rk_1_0 (rk_6_4 io_0)) (by decide) (by first | exact ⟨by omega, by omega⟩ | exact hG.2 _ _))
  · rw [hs_oth hx]
  · have a5 := a4 x x0 x1
    simp only [hs_, fu_, fsold, flost, a5, a56, ↓reduceIte]
  · exact zf_fu I.1 (by unfold zok; omega)
  · rw [hs_oth (by omega)]
    exact C.2.1
  · rw [hs_oth (by omega)]
    exact C.2.2 x y hx
theorem cu_worth {t v : Int} {h0 : PH} {F : Int → Int} (C : SU_ h0 h z F) (t0 : 0 ≤ t) (t1 : t < z 0 0) (v0 : 0 ≤ v) (v1 : v ≤ 9999) (k : ∀ h1 : PH, SU_ h0 h1 z (fu_ F t v) → Q.1 none nN h1) : Cl_ yX2_putWorth MX2_putWorth d bc bs [(2, 0 + 146), (0, t), (0, v)] nN h Q := by
  have hG := cr_g C.1
  have I := cr_i C.1
  have a4 := C.2.2
  have hT := I.2.1
  have hP := I.2.2.1
  have hN := I.2.2.2.1
  have a56 := a4 56 (by omega) (by omega)
  refine c_X2_putWorth (rk_6_8 io_0) hG t0 (by omega) ⟨by omega, by omega⟩ (k _ ?_)
  refine ⟨cr_sup C.1 ?_ (fun x y hx => ?_), fun x y hx => ?_, fun x x0 x1 => ?_⟩
  · exact (g_putA hG (rk_1_0 (rk_6_8 io_0)) (by decide) (by first | exact ⟨by omega, by omega⟩ | exact hG.2 _ _))
  · rw [hs_oth (by omega)]
  · rw [hs_oth (by omega)]
    exact C.2.1 x y hx
  · have a5 := a4 x x0 x1
    simp only [hs_, fu_, fsold, flost, a5, a56, ↓reduceIte]
theorem cf_lost {t v : Int} {h0 : PH} (C : AC_ h0 h z) (t0 : 0 ≤ t) (t1 : t < z 0 0) (v0 : 0 ≤ v) (v1 : v ≤ 9999) (k : ∀ h1 : PH, AC_ h0 h1 (zput z (flost (z 1) t v)) → Q.1 none nN h1) : Cl_ yX2_putLost MX2_putLost d bc bs [(2, 0 + 79), (0, t), (0, v)] nN h Q := by
  have hG := cr_g C.1
  have I := cr_i C.1
  have a4 := C.1.2.2.2.2.1.2.1
  have hT := I.2.1
  have hP := I.2.2.1
  have hN := I.2.2.2.1
  have b6 := I.1.2.2.1
  have a56 := a4 56 (by omega) (by omega)
  refine c_X2_putLost (rk_6_4 io_0) hG t0 (by omega) ⟨by omega, by omega⟩ (k _ ?_)
  refine ⟨cr_facts C.1 ?_ C.2.1 (fun x y hx => ?_) (fun x x0 x1 => ?_) ?_, ?_, fun x y hx => ?_⟩
  · exact (g_putA (g_putA hG (rk_1_0 (rk_6_4 io_0)) (by decide) (by first | exact ⟨by omega, by omega⟩ | exact hG.2 _ _)) (rk_1_0 (rk_6_4 io_0)) (by decide) (by first | exact ⟨by omega, by omega⟩ | exact hG.2 _ _))
  · rw [hs_oth hx, hs_oth hx]
  · have a5 := a4 x x0 x1
    simp only [hs_, fu_, fsold, flost, a5, a56, ↓reduceIte]
  · exact zf_lost I.1 t0 (by omega) v0 v1
  · rw [hs_oth (by omega), hs_oth (by omega)]
    exact C.2.1
  · rw [hs_oth (by omega), hs_oth (by omega)]
    exact C.2.2 x y hx
theorem cu_lost {t v : Int} {h0 : PH} {F : Int → Int} (C : SU_ h0 h z F) (t0 : 0 ≤ t) (t1 : t < z 0 0) (v0 : 0 ≤ v) (v1 : v ≤ 9999) (k : ∀ h1 : PH, SU_ h0 h1 z (flost F t v) → Q.1 none nN h1) : Cl_ yX2_putLost MX2_putLost d bc bs [(2, 0 + 146), (0, t), (0, v)] nN h Q := by
  have hG := cr_g C.1
  have I := cr_i C.1
  have a4 := C.2.2
  have hT := I.2.1
  have hP := I.2.2.1
  have hN := I.2.2.2.1
  have a56 := a4 56 (by omega) (by omega)
  refine c_X2_putLost (rk_6_8 io_0) hG t0 (by omega) ⟨by omega, by omega⟩ (k _ ?_)
  refine ⟨cr_sup C.1 ?_ (fun x y hx => ?_), fun x y hx => ?_, fun x x0 x1 => ?_⟩
  · exact (g_putA (g_putA hG (rk_1_0 (rk_6_8 io_0)) (by decide) (by first | exact ⟨by omega, by omega⟩ | exact hG.2 _ _)) (rk_1_0 (rk_6_8 io_0)) (by decide) (by first | exact ⟨by omega, by omega⟩ | exact hG.2 _ _))
  · rw [hs_oth (by omega), hs_oth (by omega)]
  · rw [hs_oth (by omega), hs_oth (by omega)]
    exact C.2.1 x y hx
  · have a5 := a4 x x0 x1
    simp only [hs_, fu_, fsold, flost, a5, a56, ↓reduceIte]
theorem cf_dead {t : Int} {h0 : PH} (C : AC_ h0 h z) (t0 : 0 ≤ t) (t1 : t < z 0 1) (k : ∀ h1 : PH, AC_ h0 h1 (zput z (fu_ (z 1) (32 + t) 1)) → Q.1 none nN h1) : Cl_ yX2_putDead MX2_putDead d bc bs [(2, 0 + 79), (0, t)] nN h Q := by
  have hG := cr_g C.1
  have I := cr_i C.1
  have a4 := C.1.2.2.2.2.1.2.1
  have hT := I.2.1
  have hP := I.2.2.1
  have hN := I.2.2.2.1
  have b6 := I.1.2.2.1
  have a56 := a4 56 (by omega) (by omega)
  refine c_X2_putDead (rk_6_4 io_0) hG t0 (by omega) (k _ ?_)
  refine ⟨cr_facts C.1 ?_ C.2.1 (fun x y hx => ?_) (fun x x0 x1 => ?_) ?_, ?_, fun x y hx => ?_⟩
  · exact (g_putA hG (rk_1_0 (rk_6_4 io_0)) (by decide) (by first | exact ⟨by omega, by omega⟩ | exact hG.2 _ _))
  · rw [hs_oth hx]
  · have a5 := a4 x x0 x1
    simp only [hs_, fu_, fsold, flost, a5, a56, ↓reduceIte]
  · exact zf_fu I.1 (by unfold zok; omega)
  · rw [hs_oth (by omega)]
    exact C.2.1
  · rw [hs_oth (by omega)]
    exact C.2.2 x y hx
theorem cu_dead {t : Int} {h0 : PH} {F : Int → Int} (C : SU_ h0 h z F) (t0 : 0 ≤ t) (t1 : t < z 0 1) (k : ∀ h1 : PH, SU_ h0 h1 z (fu_ F (32 + t) 1) → Q.1 none nN h1) : Cl_ yX2_putDead MX2_putDead d bc bs [(2, 0 + 146), (0, t)] nN h Q := by
  have hG := cr_g C.1
  have I := cr_i C.1
  have a4 := C.2.2
  have hT := I.2.1
  have hP := I.2.2.1
  have hN := I.2.2.2.1
  have a56 := a4 56 (by omega) (by omega)
  refine c_X2_putDead (rk_6_8 io_0) hG t0 (by omega) (k _ ?_)
  refine ⟨cr_sup C.1 ?_ (fun x y hx => ?_), fun x y hx => ?_, fun x x0 x1 => ?_⟩
  · exact (g_putA hG (rk_1_0 (rk_6_8 io_0)) (by decide) (by first | exact ⟨by omega, by omega⟩ | exact hG.2 _ _))
  · rw [hs_oth (by omega)]
  · rw [hs_oth (by omega)]
    exact C.2.1 x y hx
  · have a5 := a4 x x0 x1
    simp only [hs_, fu_, fsold, flost, a5, a56, ↓reduceIte]
theorem cf_told {t v : Int} {h0 : PH} (C : AC_ h0 h z) (t0 : 0 ≤ t) (t1 : t < 5) (v0 : 0 ≤ v) (v1 : (t = 0 ∨ t = 1 → v ≤ 99999) ∧ (t = 2 → v ≤ 240) ∧ (t = 3 → v ≤ 99) ∧ (t = 4 → v ≤ 1)) (k : ∀ h1 : PH, AC_ h0 h1 (zput z (fu_ (z 1) (56 + t) v)) → Q.1 none nN h1) : Cl_ yX2_putTold MX2_putTold d bc bs [(2, 0 + 79), (0, t), (0, v)] nN h Q := by
  have hG := cr_g C.1
  have I := cr_i C.1
  have a4 := C.1.2.2.2.2.1.2.1
  have hT := I.2.1
  have hP := I.2.2.1
  have hN := I.2.2.2.1
  have b6 := I.1.2.2.1
  have a56 := a4 56 (by omega) (by omega)
  refine c_X2_putTold (rk_6_4 io_0) hG t0 (by omega) ⟨by omega, by omega⟩ (k _ ?_)
  refine ⟨cr_facts C.1 ?_ C.2.1 (fun x y hx => ?_) (fun x x0 x1 => ?_) ?_, ?_, fun x y hx => ?_⟩
  · exact (g_putA hG (rk_1_0 (rk_6_4 io_0)) (by decide) (by first | exact ⟨by omega, by omega⟩ | exact hG.2 _ _))
  · rw [hs_oth hx]
  · have a5 := a4 x x0 x1
    simp only [hs_, fu_, fsold, flost, a5, a56, ↓reduceIte]
  · exact zf_fu I.1 (by unfold zok; omega)
  · rw [hs_oth (by omega)]
    exact C.2.1
  · rw [hs_oth (by omega)]
    exact C.2.2 x y hx
theorem cu_told {t v : Int} {h0 : PH} {F : Int → Int} (C : SU_ h0 h z F) (t0 : 0 ≤ t) (t1 : t < 5) (v0 : 0 ≤ v) (v1 : (t = 0 ∨ t = 1 → v ≤ 99999) ∧ (t = 2 → v ≤ 240) ∧ (t = 3 → v ≤ 99) ∧ (t = 4 → v ≤ 1)) (k : ∀ h1 : PH, SU_ h0 h1 z (fu_ F (56 + t) v) → Q.1 none nN h1) : Cl_ yX2_putTold MX2_putTold d bc bs [(2, 0 + 146), (0, t), (0, v)] nN h Q := by
  have hG := cr_g C.1
  have I := cr_i C.1
  have a4 := C.2.2
  have hT := I.2.1
  have hP := I.2.2.1
  have hN := I.2.2.2.1
  have a56 := a4 56 (by omega) (by omega)
  refine c_X2_putTold (rk_6_8 io_0) hG t0 (by omega) ⟨by omega, by omega⟩ (k _ ?_)
  refine ⟨cr_sup C.1 ?_ (fun x y hx => ?_), fun x y hx => ?_, fun x x0 x1 => ?_⟩
  · exact (g_putA hG (rk_1_0 (rk_6_8 io_0)) (by decide) (by first | exact ⟨by omega, by omega⟩ | exact hG.2 _ _))
  · rw [hs_oth (by omega)]
  · rw [hs_oth (by omega)]
    exact C.2.1 x y hx
  · have a5 := a4 x x0 x1
    simp only [hs_, fu_, fsold, flost, a5, a56, ↓reduceIte]
theorem cu_copy (hd : 2 ≤ d) (C : CR_ h z) (k : ∀ h1 : PH, SU_ h h1 z (z 1) → Q.1 none nN h1) : Cl_ yX2_copyFrom MX2_copyFrom d bc bs [(2, 0 + 146), (2, 0 + 79)] nN h Q := by
  have hG := cr_g C
  have a4 := C.2.2.2.2.1.2.1
  refine c_X2_copyFrom hd (rk_6_8 io_0) (rk_6_4 io_0) hG (k _ ⟨cr_sup C (g_cp hG (rk_1_0 (rk_6_8 io_0)) (by decide)) (fun x y hx => cp_ne (by omega)), fun x y hx => cp_ne (by omega), fun x x0 x1 => ?_⟩)
  rw [cp_in x0 (by omega), show (0 : Int) + (x - 0) = x by omega]
  exact a4 x x0 x1
set_option maxRecDepth 100000 in
set_option maxHeartbeats 4000000 in
theorem c_X8_beginAct  (hd : 4 ≤ d) (C : CR_ h z) (k : ∀ h1 : PH, AC_ h h1 (zkeep z) → Q.1 none nN h1) : Cl_ yX8_beginAct MX8_beginAct d bc bs [(2, 0)] nN h Q := by
  refine s_enter pn_X8 rfl (Nat.le_of_ble_eq_true rfl) (L := [(2, _)]) rfl ?_
  have hG := cr_g C
  obtain ⟨a1, a2, a3⟩ := C.2.2.2.2.2.2.2.2.1
  have b53 := (cr_b C).2.2.2.2.2.1
  have hA : h (0 + 81) 1 = h 81 1 := rfl
  have hB : h (0 + 81) 2 = h 81 2 := rfl
  refine s_aload_n dX8_beginAct_0 rfl ?_
  refine s_getr dX8_beginAct_1 fl_X8_39 kl_6 (by decide) rfl io_0 (z := 5) rfl (rf_6_5 hG.1 io_0) (rk_6_5 io_0).1 ?_
  refine s_aload_n dX8_beginAct_4 rfl ?_
  refine s_getr dX8_beginAct_5 fl_X8_32 kl_6 (by decide) rfl io_0 (z := 4) rfl (rf_6_4 hG.1 io_0) (rk_6_4 io_0).1 ?_
  refine s_callV (d' := d - 1) (bc' := 0) (bs' := 0) (as := [_]) dX8_beginAct_8 vf_X8_257 (dd_ (by omega) (by decide)) ⟨Nat.zero_le _, Nat.zero_le _⟩ rfl rfl (Nat.le_of_ble_eq_true rfl) kl_0 rfl (rk_6_5 io_0) ?_
  refine c_X1_keep (by omega) (rk_6_5 io_0) (rk_6_4 io_0) hG (by omega) (by omega) (by omega) (by omega) ?_
  have hG1 := g_putO 2 (g_putO 1 (g_cp (sp := 0) (dp := 0) (n := 61) (a := 0 + 79 + 1) (b := 0 + 81 + 1 + 1 + h (0 + 81) 1) hG (rx_0_0 (rk_6_5 io_0) (i := h (0 + 81) 1) (by omega) (by omega)) (by decide)) (rk_6_5 io_0) (z := 1) (v := if h (0 + 81) 1 = 15 then 0 else h (0 + 81) 1 + 1) (by decide +kernel) rfl ⟨by split <;> omega, by split <;> omega⟩) (rk_6_5 io_0) (z := 2) (v := min 16 (h (0 + 81) 2 + 1)) (by decide +kernel) rfl ⟨by omega, by omega⟩
  refine s_aload_n dX8_beginAct_11 rfl ?_
  refine s_iconst dX8_beginAct_12 ?_
  refine s_putzG 7 dX8_beginAct_13 fl_X8_52 kl_6 (by decide) rfl rfl io_0 (z := 7) rfl (by decide +kernel) hG1 (by first | exact Or.inl rfl | exact Or.inr rfl | exact b01_or _ | exact ite01 _ | assumption | omega) (fun hG2 => ?_)
  refine s_return dX8_beginAct_16 rfl (k _ ⟨cr_keep C hG2 (fun x y x0 x1 x2 => ?_) ?_ ?_ (fun k k0 k1 => ?_) (hs_eq _ _ _ _), hs_eq _ _ _ _, fun x y hx => ?_⟩)
  · rw [hs_ne _ (by omega), hs_oth (by omega), hs_oth (by omega), cp_ne (by omega)]
  · rw [hs_oth (by omega), hs_otk (by omega), hs_same (by omega) rfl]
    rfl
  · rw [hs_oth (by omega), hs_same (by omega) rfl]
    rfl
  · rw [hs_oth (by omega), hs_oth (by omega), hs_oth (by omega), cp_inn (by omega) k0 (by omega), show (0 : Int) + (k - 0) = k by omega]
  · rw [hs_oth (by omega), hs_oth (by omega), hs_oth (by omega), cp_ne (by omega)]
end X8E
