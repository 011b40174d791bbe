/-! THE CLASS'S HEAP SHOWS THE PICTURE: beside what part 48 tells: z 10 t, z 11 p how long names are, z (20 + t), z (30 + p) their letters; z 50 0 the tape's length, z 51 its bytes; z 52 0 the fault; z 53 0 how many acts are kept, z (60 + j) what was told ahead of the j-th; z 54 0 how much is written, z 55 what -/
def ZB (z : PH) : Prop := (0 ≤ z 50 0 ∧ z 50 0 ≤ 400) ∧ (∀ k : Int, 0 ≤ k → k < 400 → -128 ≤ z 51 k ∧ z 51 k < 128) ∧ (-1 ≤ z 52 0 ∧ z 52 0 ≤ 400) ∧
  (∀ t : Int, 0 ≤ t → t < z 0 0 → (1 ≤ z 10 t ∧ z 10 t ≤ 6) ∧ ∀ j : Int, 0 ≤ j → j < z 10 t → 97 ≤ z (20 + t) j ∧ z (20 + t) j ≤ 122) ∧
  (∀ p : Int, 0 ≤ p → p < z 0 1 → (1 ≤ z 11 p ∧ z 11 p ≤ 6) ∧ ∀ j : Int, 0 ≤ j → j < z 11 p → 97 ≤ z (30 + p) j ∧ z (30 + p) j ≤ 122) ∧
  (0 ≤ z 53 0 ∧ z 53 0 ≤ 16) ∧ (∀ j : Int, 0 ≤ j → j < z 53 0 → ZF (fun _ => z (60 + j))) ∧ (0 ≤ z 54 0 ∧ z 54 0 ≤ 480) ∧ (∀ k : Int, 0 ≤ k → k < z 54 0 → 0 ≤ z 55 k ∧ z 55 k < 128)
def CN_ (h : PH) (w : Int) (z : PH) : Prop := (∀ t : Int, 0 ≤ t → t < z 0 0 → h (w + 2) t = z 10 t ∧ ∀ j : Int, 0 ≤ j → j < z 10 t → h (w + 4 + t) j = z (20 + t) j) ∧
  (∀ p : Int, 0 ≤ p → p < z 0 1 → h (w + 15) p = z 11 p ∧ ∀ j : Int, 0 ≤ j → j < z 11 p → h (w + 17 + p) j = z (30 + p) j)
def CA_ (h z : PH) : Prop := h 81 2 = z 53 0 ∧ (0 ≤ h 81 1 ∧ h 81 1 < 16) ∧ ∀ j k : Int, 0 ≤ j → j < z 53 0 → 0 ≤ k → k < 61 → h (83 + (h 81 1 - z 53 0 + j) % 16) k = z (60 + j) k
def CS_ (h z : PH) : Prop := h 198 0 = z 54 0 ∧ (∀ k : Int, 0 ≤ k → k < z 54 0 → h 198 (10 + k) = z 55 k) ∧ 16 ≤ h 198 (-1) ∧ h 198 (-1) ≤ 962 ∧ z 54 0 ≤ h 198 (-1) ∧ (h 198 1 = 0 ∨ h 198 1 = 1)
def CD_ (h z : PH) : Prop := (h 0 7 = 0 ∨ h 0 7 = 1) ∧ (h 0 7 = 0 → h (0 + 99) 14 = h 0 3 ∧ RD_ h (0 + 99) z)
def CR_ (h z : PH) : Prop := G h ∧ ZI z ∧ ZB z ∧ ((h 0 3 = 3 ∧ h 2 0 = 42) ∨ (h 0 3 = 42 ∧ h 2 0 = 3)) ∧ PR_ h (h 0 3) (0 + 79) z ∧ CN_ h (h 0 3) z ∧ (h 0 1 = z 50 0 ∧ ∀ k : Int, 0 ≤ k → k < 400 → h 1 k = z 51 k) ∧ h 2 2 = z 52 0 ∧ CA_ h z ∧ CS_ h z ∧ CD_ h z
/-- the reference's cells are as they were -/
def FC (h h' : PH) : Prop := ∀ x y : Int, 195 ≤ x → h' x y = h x y
theorem FC.rf (h : PH) : FC h h := fun _ _ _ => rfl
theorem FC.tr {h h1 h2 : PH} (a : FC h h1) (b : FC h1 h2) : FC h h2 := fun x y hx => (b x y hx).trans (a x y hx)
def OK_ (Q : PQ) (h z : PH) (a : Int) : Prop := ∀ h' : PH, CR_ h' z → FC h h' → Q.1 (some (0, a)) nN h'
def TH_ (Q : PQ) (h z : PH) (E : String) : Prop := ∀ h' : PH, CR_ h' z → FC h h' → Q.2 E nN h'
abbrev IOB : String := "java/lang/IndexOutOfBoundsException"
abbrev IAE : String := "java/lang/IllegalArgumentException"
abbrev ISE : String := "java/lang/IllegalStateException"
theorem cr_w {h z : PH} (C : CR_ h z) : ∃ w : Int, h 0 3 = w ∧ isO nN w 5 ∧ w + 36 < 0 + 79 ∧ PR_ h w (0 + 79) z ∧ CN_ h w z := by
  refine ⟨h 0 3, rfl, ?_, ?_, C.2.2.2.2.1, C.2.2.2.2.2.1⟩
  · rcases C.2.2.2.1 with e | e <;> rw [e.1]
    · exact io_3
    · exact io_42
  · rcases C.2.2.2.1 with e | e <;> omega
theorem cr_g {h z : PH} (C : CR_ h z) : G h := C.1
theorem cr_i {h z : PH} (C : CR_ h z) : ZI z := C.2.1
theorem cr_b {h z : PH} (C : CR_ h z) : ZB z := C.2.2.1
/-- only the reckonings and what is supposed have changed -/
theorem cr_fr {h h' z : PH} (C : CR_ h z) (hG : G h') (e : ∀ x y : Int, (x < 99 ∨ 194 < x) → ¬ (x = 0 ∧ y = 7) → h' x y = h x y) (hD : CD_ h' z) : CR_ h' z := by
  obtain ⟨-, c1, c2, c3, c4, c5, c6, c7, c8, c9, -⟩ := C
  have e3 : h' 0 3 = h 0 3 := e _ _ (by omega) (by omega)
  refine ⟨hG, c1, c2, ?_, ?_, ?_, ?_, ?_, ?_, ?_, hD⟩
  · rw [e3, e 2 0 (by omega) (by omega)]
    exact c3
  · rw [e3]
    exact PR_to c4 (fun x y a b => e x y (by rcases c3 with q | q <;> omega) (by rcases c3 with q | q <;> omega)) (fun y => e _ _ (by omega) (by omega))
  · rw [e3]
    refine ⟨fun t a b => ?_, fun t a b => ?_⟩
    · have q := c5.1 t a b
      have hT := c1.2.1
      refine ⟨by rw [e _ _ (by rcases c3 with q | q <;> omega) (by rcases c3 with q | q <;> omega)]; exact q.1, fun j j0 j1 => ?_⟩
      rw [e _ _ (by rcases c3 with q | q <;> omega) (by rcases c3 with q | q <;> omega)]
      exact q.2 j j0 j1
    · have q := c5.2 t a b
      have hT := c1.2.2.1
      refine ⟨by rw [e _ _ (by rcases c3 with q | q <;> omega) (by rcases c3 with q | q <;> omega)]; exact q.1, fun j j0 j1 => ?_⟩
      rw [e _ _ (by rcases c3 with q | q <;> omega) (by rcases c3 with q | q <;> omega)]
      exact q.2 j j0 j1
  · refine ⟨by rw [e _ _ (by omega) (by omega)]; exact c6.1, fun k a b => ?_⟩
    rw [e _ _ (by omega) (by omega)]
    exact c6.2 k a b
  · rw [e _ _ (by omega) (by omega)]
    exact c7
  · obtain ⟨a1, a2, a3⟩ := c8
    have e1 : h' 81 1 = h 81 1 := e _ _ (by omega) (by omega)
    refine ⟨by rw [e _ _ (by omega) (by omega)]; exact a1, by rw [e1]; exact a2, fun j k j0 j1 k0 k1 => ?_⟩
    rw [e1, e _ _ (by omega) (by omega)]
    exact a3 j k j0 j1 k0 k1
  · obtain ⟨a1, a2, a3, a4, a5, a6⟩ := c9
    refine ⟨by rw [e _ _ (by omega) (by omega)]; exact a1, fun k a b => by rw [e _ _ (by omega) (by omega)]; exact a2 k a b, ?_, ?_, ?_, ?_⟩
    · rw [e _ _ (by omega) (by omega)]; exact a3
    · rw [e _ _ (by omega) (by omega)]; exact a4
    · rw [e _ _ (by omega) (by omega)]; exact a5
    · rw [e _ _ (by omega) (by omega)]; exact a6
theorem RD_to {h h' : PH} {r : Int} {z : PH} (R : RD_ h r z) (H : ZI z) (e : ∀ x y : Int, r ≤ x → x ≤ r + 43 → h' x y = h x y) : RD_ h' r z := by
  obtain ⟨a1, a2, a3, a4, a5, a6, a7, a8, a9, b1, b2, b3, b4⟩ := R
  have hN := H.2.2.2.1
  have E : ∀ k : Int, h' r k = h r k := fun k => e r k (by omega) (by omega)
  refine ⟨fun p p0 p1 => by rw [e _ _ (by omega) (by omega)]; exact a1 p p0 p1, fun g g0 g1 => by rw [e _ _ (by omega) (by omega)]; exact a2 g g0 g1, fun t t0 t1 => by rw [e _ _ (by omega) (by omega)]; exact a3 t t0 t1, fun g c g0 g1 c0 c1 => ?_, fun g p g0 g1 p0 p1 => ?_, fun p p0 p1 => ?_, ?_⟩
  · rw [e _ _ (by omega) (by omega), e _ _ (by omega) (by omega)]
    exact a4 g c g0 g1 c0 c1
  · rw [e _ _ (by omega) (by omega)]
    exact a5 g p g0 g1 p0 p1
  · rw [e _ _ (by omega) (by omega)]
    exact a6 p p0 p1
  · rw [E, E, E, E, E, E, E]
    exact ⟨a7, a8, a9, b1, b2, b3, b4⟩
theorem cr_rd {h z : PH} (C : CR_ h z) (s : h 0 7 = 0) : RD_ h (0 + 99) z := (C.2.2.2.2.2.2.2.2.2.2.2 s).2
theorem cr_rw {h z : PH} {w : Int} (C : CR_ h z) (s : h 0 7 = 0) (hw : h 0 3 = w) : h (0 + 99) 14 = w := (C.2.2.2.2.2.2.2.2.2.2.2 s).1.trans hw
