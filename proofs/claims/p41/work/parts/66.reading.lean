/-! THE CLASS READS: its reader's will v, its facts 40, hold what y tells -/
def FRr (h0 h : PH) (v : Int) : Prop := ∀ x k : Int, ¬ x = 2 → (x < v ∨ v + 36 < x) → ¬ x = 40 → ¬ x = 41 → h x k = h0 x k
/-- what stands still while a text is read -/
def EV_ (h0 : PH) (v n : Int) (T : Int → Int) : Prop := (v = 3 ∨ v = 42) ∧ (0 ≤ n ∧ n ≤ 400) ∧ ∀ k : Int, 0 ≤ k → k < 400 → h0 1 k = T k ∧ -128 ≤ T k ∧ T k < 128
def PY_ (h : PH) (v m : Int) (y : PH) : Prop := (h (v + 1) 1 = y 0 0 ∧ h (v + 14) 1 = y 0 1 ∧ h v 7 = y 0 2) ∧ (∀ k : Int, 0 ≤ k → k < 61 → h (2 + 38 + 1) k = y 1 k) ∧
  (∀ p : Int, 0 ≤ p → p < m → h (v + 29) p = y 2 p ∧ h (v + 30) p = y 3 p ∧ h (v + 31) p = zkn y p) ∧
  (∀ g : Int, 0 ≤ g → g < y 0 2 → h (v + 32) g = y 5 g ∧ h (v + 33) g = y 6 g ∧ h (v + 34) g = y 7 g ∧ h (v + 35) g = y 8 g ∧ h (v + 36) g = y 9 g)
def GV_ (h : PH) (v : Int) (y : PH) : Prop := ∀ t : Int, 0 ≤ t → t < 8 → (¬ h (v + 12) t = 0 ↔ gk_ y 0 t) ∧ (¬ h (v + 13) t = 0 ↔ gk_ y 2 t)
def YN_ (y : PH) : Prop := (∀ t : Int, 0 ≤ t → t < y 0 0 → (1 ≤ y 10 t ∧ y 10 t ≤ 6) ∧ ∀ j : Int, 0 ≤ j → j < y 10 t → 97 ≤ y (20 + t) j ∧ y (20 + t) j ≤ 122) ∧
  (∀ p : Int, 0 ≤ p → p < y 0 1 → (1 ≤ y 11 p ∧ y 11 p ≤ 6) ∧ ∀ j : Int, 0 ≤ j → j < y 11 p → 97 ≤ y (30 + p) j ∧ y (30 + p) j ≤ 122)
def YC_ (y : PH) : Prop := (0 ≤ y 0 0 ∧ y 0 0 ≤ 8) ∧ (0 ≤ y 0 1 ∧ y 0 1 ≤ 12) ∧ (0 ≤ y 0 2 ∧ y 0 2 ≤ 12)
def YP_ (m : Int) (y : PH) : Prop := ∀ p : Int, 0 ≤ p → p < m → (-1 ≤ y 2 p ∧ y 2 p < p) ∧ (y 3 p = 0 ∨ y 3 p = 1) ∧ (¬ y 3 p = 0 → y 2 p = -1)
def YG_ (y : PH) : Prop := ∀ g : Int, 0 ≤ g → g < y 0 2 → (0 ≤ y 5 g ∧ y 5 g ≤ 3) ∧ (0 ≤ y 6 g ∧ y 6 g < y 0 1) ∧ (y 5 g = 0 ∨ y 5 g = 2 → 0 ≤ y 7 g ∧ y 7 g < y 0 0) ∧ (y 5 g = 1 ∨ y 5 g = 3 → y 7 g = -1) ∧ (y 5 g = 0 → y 8 g = -1) ∧ (y 5 g = 1 ∨ y 5 g = 2 → 1 ≤ y 8 g ∧ y 8 g ≤ 9999) ∧ (y 5 g = 3 → 1 ≤ y 8 g ∧ y 8 g ≤ 9) ∧ (y 5 g = 1 ∨ y 5 g = 2 → 1 ≤ y 9 g ∧ y 9 g ≤ 4) ∧ (y 5 g = 0 ∨ y 5 g = 3 → y 9 g = -1)
def YI_ (m : Int) (y : PH) : Prop := ZF y ∧ YC_ y ∧ (0 ≤ m ∧ m ≤ y 0 1) ∧ YP_ m y ∧ YG_ y ∧ YN_ y
/-- the text is read as far as a, the word or number taken latest begins at s -/
def RS_ (h0 : PH) (v n m a s : Int) (y h : PH) : Prop := (G h ∧ FRr h0 h v ∧ h 2 0 = v) ∧ (h 2 4 = n ∧ h 2 5 = a ∧ h 2 6 = s ∧ h 2 2 = -1) ∧ PY_ h v m y ∧ CN_ h v y ∧ GV_ h v y ∧ YI_ m y
/-- it is wrong at f -/
def RX_ (h0 : PH) (v f : Int) (h : PH) : Prop := G h ∧ FRr h0 h v ∧ h 2 0 = v ∧ h 2 2 = f ∧ 0 ≤ f ∧ f ≤ 400
theorem ev_w {h0 : PH} {v n : Int} {T : Int → Int} (E : EV_ h0 v n T) : isO nN v 5 := by
  rcases E.1 with e | e <;> subst e
  · exact io_3
  · exact io_42
theorem rs_T {h0 h y : PH} {v n m a s : Int} {T : Int → Int} (E : EV_ h0 v n T) (R : RS_ h0 v n m a s y h) {k : Int} (k0 : 0 ≤ k) (k1 : k < 400) : h (2 + -1) k = T k ∧ -128 ≤ T k ∧ T k < 128 := by
  have e := E.2.2 k k0 k1
  refine ⟨?_, e.2⟩
  rw [R.1.2.1 _ _ (by omega) (by rcases E.1 with q | q <;> omega) (by omega) (by omega)]
  exact e.1
/-- only the reader's own numbers have changed -/
theorem rs_own {h0 h h' y : PH} {v n m a s a' s' : Int} (hv : v = 3 ∨ v = 42) (R : RS_ h0 v n m a s y h) (hG : G h') (f : ∀ x k : Int, ¬ x = 2 → h' x k = h x k) (e0 : h' 2 0 = v) (e4 : h' 2 4 = n) (e5 : h' 2 5 = a') (e6 : h' 2 6 = s') (e2 : h' 2 2 = -1) : RS_ h0 v n m a' s' y h' := by
  obtain ⟨⟨-, r2, r3⟩, -, ⟨p1, p2, p3, p4⟩, c, g, i⟩ := R
  have F : ∀ x k : Int, v ≤ x → h' x k = h x k := fun x k hx => f x k (by rcases hv with q | q <;> omega)
  refine ⟨⟨hG, fun x k a b c d => by rw [f x k a]; exact r2 x k a b c d, e0⟩, ⟨e4, e5, e6, e2⟩, ⟨?_, fun k a b => ?_, fun p a b => ?_, fun t a b => ?_⟩, ⟨fun t a b => ?_, fun t a b => ?_⟩, fun t a b => ?_, i⟩
  · rw [F _ _ (by omega), F _ _ (by omega), F _ _ (by omega)]
    exact p1
  · rw [f _ _ (by omega)]
    exact p2 k a b
  · rw [F _ _ (by omega), F _ _ (by omega), F _ _ (by omega)]
    exact p3 p a b
  · rw [F _ _ (by omega), F _ _ (by omega), F _ _ (by omega), F _ _ (by omega), F _ _ (by omega)]
    exact p4 t a b
  · have q := c.1 t a b
    refine ⟨by rw [F _ _ (by omega)]; exact q.1, fun j j0 j1 => ?_⟩
    rw [F _ _ (by omega)]
    exact q.2 j j0 j1
  · have q := c.2 t a b
    refine ⟨by rw [F _ _ (by omega)]; exact q.1, fun j j0 j1 => ?_⟩
    rw [F _ _ (by omega)]
    exact q.2 j j0 j1
  · rw [F _ _ (by omega), F _ _ (by omega)]
    exact g t a b
theorem rs_x {h0 h h' y : PH} {v n m a s f : Int} (R : RS_ h0 v n m a s y h) (hG : G h') (e : ∀ x k : Int, ¬ x = 2 → h' x k = h x k) (e0 : h' 2 0 = v) (e2 : h' 2 2 = f) (hf : 0 ≤ f ∧ f ≤ 400) : RX_ h0 v f h' :=
  ⟨hG, fun x k a b c d => by rw [e x k a]; exact R.1.2.1 x k a b c d, e0, e2, hf⟩
/-- facts told -/
theorem rs_f {h0 h h' y : PH} {v n m a s : Int} {F : Int → Int} (hv : v = 3 ∨ v = 42) (R : RS_ h0 v n m a s y h) (hG : G h') (f : ∀ x k : Int, ¬ x = 2 + 38 + 1 → h' x k = h x k) (eF : ∀ k : Int, 0 ≤ k → k < 61 → h' (2 + 38 + 1) k = F k) (zf : ZF (fun _ => F)) : RS_ h0 v n m a s (zput y F) h' := by
  obtain ⟨⟨-, r2, r3⟩, ⟨d1, d2, d3, d4⟩, ⟨p1, p2, p3, p4⟩, c, g, i⟩ := R
  obtain ⟨i1, i2, i3, i4, i5, i6⟩ := i
  have ne : ∀ x : Int, ¬ x = 1 → zput y F x = y x := fun x hx => zput_ne hx
  have hT := i2.1
  have hP := i2.2.1
  refine ⟨⟨hG, fun x k a b c d => by rw [f x k (by omega)]; exact r2 x k a b c d, by rw [f _ _ (by omega)]; exact r3⟩, ⟨by rw [f _ _ (by omega)]; exact d1, by rw [f _ _ (by omega)]; exact d2, by rw [f _ _ (by omega)]; exact d3, by rw [f _ _ (by omega)]; exact d4⟩, ?_, ?_, ?_, ?_⟩
  · unfold PY_
    rw [zkn_to (z := y) (ne 2 (by omega)) (ne 3 (by omega)), ne 0 (by omega), ne 2 (by omega), ne 3 (by omega), ne 5 (by omega), ne 6 (by omega), ne 7 (by omega), ne 8 (by omega), ne 9 (by omega), zput_1]
    refine ⟨by rw [f _ _ (by rcases hv with q | q <;> omega), f _ _ (by rcases hv with q | q <;> omega), f _ _ (by rcases hv with q | q <;> omega)]; exact p1, eF, fun p a b => ?_, fun t a b => ?_⟩
    · rw [f _ _ (by rcases hv with q | q <;> omega), f _ _ (by rcases hv with q | q <;> omega), f _ _ (by rcases hv with q | q <;> omega)]
      exact p3 p a b
    · rw [f _ _ (by rcases hv with q | q <;> omega), f _ _ (by rcases hv with q | q <;> omega), f _ _ (by rcases hv with q | q <;> omega), f _ _ (by rcases hv with q | q <;> omega), f _ _ (by rcases hv with q | q <;> omega)]
      exact p4 t a b
  · unfold CN_
    rw [ne 0 (by omega), ne 10 (by omega), ne 11 (by omega)]
    refine ⟨fun t a b => ?_, fun t a b => ?_⟩
    · have q := c.1 t a b
      refine ⟨by rw [f _ _ (by rcases hv with q | q <;> omega)]; exact q.1, fun j j0 j1 => ?_⟩
      rw [f _ _ (by rcases hv with q | q <;> omega), ne (20 + t) (by omega)]
      exact q.2 j j0 j1
    · have q := c.2 t a b
      refine ⟨by rw [f _ _ (by rcases hv with q | q <;> omega)]; exact q.1, fun j j0 j1 => ?_⟩
      rw [f _ _ (by rcases hv with q | q <;> omega), ne (30 + t) (by omega)]
      exact q.2 j j0 j1
  · intro t a b
    unfold gk_
    rw [f _ _ (by rcases hv with q | q <;> omega), f _ _ (by rcases hv with q | q <;> omega), ne 0 (by omega), ne 5 (by omega), ne 7 (by omega)]
    exact g t a b
  · refine ⟨zf_put zf, by unfold YC_; rw [ne 0 (by omega)]; exact i2, by rw [ne 0 (by omega)]; exact i3, by unfold YP_; rw [ne 2 (by omega), ne 3 (by omega)]; exact i4, by unfold YG_; rw [ne 0 (by omega), ne 5 (by omega), ne 6 (by omega), ne 7 (by omega), ne 8 (by omega), ne 9 (by omega)]; exact i5, ?_⟩
    unfold YN_
    rw [ne 0 (by omega), ne 10 (by omega), ne 11 (by omega)]
    refine ⟨fun t a b => ?_, fun t a b => ?_⟩
    · rw [ne (20 + t) (by omega)]
      exact i6.1 t a b
    · rw [ne (30 + t) (by omega)]
      exact i6.2 t a b
/-! kin -/
theorem knk_congr {pa pa' ch ch' : Int → Int} : ∀ (k : Nat) (p : Int), (∀ q : Int, 0 ≤ q → q ≤ p → pa q = pa' q ∧ ch q = ch' q ∧ -1 ≤ pa q ∧ pa q < q) → 0 ≤ p → knk pa ch k p = knk pa' ch' k p
  | 0, _, _, _ => rfl
  | k + 1, p, h, p0 => by
    have h0 := h p p0 (Int.le_refl _)
    rw [knk, knk, ← h0.1, ← h0.2.1]
    split
    · rfl
    · split
      · rfl
      · exact knk_congr k (pa p) (fun q q0 q1 => h q q0 (by omega)) (by omega)
theorem knk_more {pa ch : Int → Int} : ∀ (k : Nat) (p : Int), (∀ q : Int, 0 ≤ q → q ≤ p → -1 ≤ pa q ∧ pa q < q) → 0 ≤ p → p < k → knk pa ch (k + 1) p = knk pa ch k p
  | 0, p, _, p0, pk => by omega
  | k + 1, p, h, p0, pk => by
    have h0 := h p p0 (Int.le_refl _)
    show (if ¬ ch p = 0 then (1 : Int) else if pa p = -1 then 0 else knk pa ch (k + 1) (pa p)) = (if ¬ ch p = 0 then 1 else if pa p = -1 then 0 else knk pa ch k (pa p))
    split
    · rfl
    · split
      · rfl
      · exact knk_more k (pa p) (fun q q0 q1 => h q q0 (by omega)) (by omega) (by omega)
theorem zkn_0 {z : PH} {p : Int} (h : ∀ q : Int, 0 ≤ q → q ≤ p → -1 ≤ z 2 q ∧ z 2 q < q) (p0 : 0 ≤ p) (p1 : p < 12) : zkn z p = if ¬ z 3 p = 0 then 1 else if z 2 p = -1 then 0 else zkn z (z 2 p) := by
  have h0 := h p p0 (Int.le_refl _)
  unfold zkn
  rw [knk]
  split
  · rfl
  · split
    · rfl
    · exact (knk_more 11 (z 2 p) (fun q a b => h q a (by omega)) (by omega) (by omega)).symm
theorem zkn_01 {z : PH} (p : Int) : zkn z p = 0 ∨ zkn z p = 1 := by
  have h : ∀ (k : Nat) (p : Int), knk (z 2) (z 3) k p = 0 ∨ knk (z 2) (z 3) k p = 1 := by
    intro k
    induction k with
    | zero => exact fun _ => Or.inl rfl
    | succ k ih =>
      intro p
      rw [knk]
      split
      · exact Or.inr rfl
      · split
        · exact Or.inl rfl
        · exact ih _
  exact h 12 p
/-! persons, names, gifts put down -/
theorem ypa_2 {y : PH} {p q c : Int} : ypa y p q c 2 = fu_ (y 2) p q := if_pos rfl
theorem ypa_3 {y : PH} {p q c : Int} : ypa y p q c 3 = fu_ (y 3) p c := by unfold ypa; rw [if_neg (by omega), if_pos rfl]
theorem ypa_ne {y : PH} {p q c x : Int} (a : ¬ x = 2) (b : ¬ x = 3) : ypa y p q c x = y x := by unfold ypa; rw [if_neg a, if_neg b]
theorem rs_pp {h0 h h' y : PH} {v n m a s q c : Int} (hv : v = 3 ∨ v = 42) (R : RS_ h0 v n m a s y h) (em : m + 1 = y 0 1) (hG : G h') (q0 : -1 ≤ q) (q1 : q < m) (hc : c = 0 ∨ c = 1) (hcq : ¬ c = 0 → q = -1) (f : ∀ x k : Int, ¬ (k = m ∧ (x = v + 29 ∨ x = v + 30 ∨ x = v + 31)) → h' x k = h x k) (e1 : h' (v + 29) m = q) (e2 : h' (v + 30) m = c) (e3 : h' (v + 31) m = if ¬ c = 0 ∨ (¬ q = -1 ∧ ¬ h (v + 31) q = 0) then 1 else 0) : RS_ h0 v n (m + 1) a s (ypa y m q c) h' := by
  obtain ⟨⟨-, r2, r3⟩, ⟨d1, d2, d3, d4⟩, ⟨p1, p2, p3, p4⟩, cn, g, i⟩ := R
  obtain ⟨i1, i2, i3, i4, i5, i6⟩ := i
  have ne : ∀ x : Int, ¬ x = 2 → ¬ x = 3 → ypa y m q c x = y x := fun x a b => ypa_ne a b
  have hT := i2.1
  have hP := i2.2.1
  have k2 : ∀ p : Int, 0 ≤ p → p < m → zkn (ypa y m q c) p = zkn y p := fun p a b => by
    unfold zkn
    rw [ypa_2, ypa_3]
    exact knk_congr 12 p (fun x x0 x1 => by
      rw [fu_ne (by omega), fu_ne (by omega)]
      have := (i4 x x0 (by omega)).1
      exact ⟨rfl, rfl, this.1, this.2⟩) a
  have yp : YP_ (m + 1) (ypa y m q c) := fun p a b => by
    rw [ypa_2, ypa_3]
    by_cases e : p = m
    · rw [e, fu_eq, fu_eq]
      exact ⟨⟨q0, q1⟩, hc, hcq⟩
    · rw [fu_ne e, fu_ne e]
      exact i4 p a (by omega)
  refine ⟨⟨hG, fun x k a b c d => by rw [f x k (by omega)]; exact r2 x k a b c d, by rw [f _ _ (by rcases hv with z | z <;> omega)]; exact r3⟩, ⟨by rw [f _ _ (by rcases hv with z | z <;> omega)]; exact d1, by rw [f _ _ (by rcases hv with z | z <;> omega)]; exact d2, by rw [f _ _ (by rcases hv with z | z <;> omega)]; exact d3, by rw [f _ _ (by rcases hv with z | z <;> omega)]; exact d4⟩, ?_, ?_, ?_, ?_⟩
  · unfold PY_
    rw [ne 0 (by omega) (by omega), ne 1 (by omega) (by omega), ne 5 (by omega) (by omega), ne 6 (by omega) (by omega), ne 7 (by omega) (by omega), ne 8 (by omega) (by omega), ne 9 (by omega) (by omega)]
    refine ⟨by rw [f _ _ (by omega), f _ _ (by omega), f _ _ (by omega)]; exact p1, fun k a b => by rw [f _ _ (by rcases hv with z | z <;> omega)]; exact p2 k a b, fun p a b => ?_, fun t a b => ?_⟩
    · rw [ypa_2, ypa_3]
      by_cases e : p = m
      · subst e
        rw [fu_eq, fu_eq, e1, e2, e3, zkn_0 (fun x x0 x1 => (yp x x0 (by omega)).1) (by omega) (by omega), ypa_2, ypa_3, fu_eq, fu_eq]
        refine ⟨rfl, rfl, ?_⟩
        by_cases z1 : c = 0
        · rw [if_neg (show ¬ ¬ c = 0 from fun z => z z1)]
          by_cases z2 : q = -1
          · rw [if_neg (by omega), if_pos z2]
          · rw [if_neg z2, k2 q (by omega) (by omega), (p3 q (by omega) (by omega)).2.2]
            rcases zkn_01 (z := y) q with z3 | z3 <;> rw [z3]
            · rw [if_neg (by omega)]
            · rw [if_pos (by omega)]
        · rw [if_pos (Or.inl z1), if_pos z1]
      · rw [fu_ne e, fu_ne e, f _ _ (by omega), f _ _ (by omega), f _ _ (by omega), k2 p a (by omega)]
        exact p3 p a (by omega)
    · rw [f _ _ (by omega), f _ _ (by omega), f _ _ (by omega), f _ _ (by omega), f _ _ (by omega)]
      exact p4 t a b
  · unfold CN_
    rw [ne 0 (by omega) (by omega), ne 10 (by omega) (by omega), ne 11 (by omega) (by omega)]
    refine ⟨fun t a b => ?_, fun t a b => ?_⟩
    · have z := cn.1 t a b
      refine ⟨by rw [f _ _ (by omega)]; exact z.1, fun j j0 j1 => ?_⟩
      rw [f _ _ (by omega), ne (20 + t) (by omega) (by omega)]
      exact z.2 j j0 j1
    · have z := cn.2 t a b
      refine ⟨by rw [f _ _ (by omega)]; exact z.1, fun j j0 j1 => ?_⟩
      rw [f _ _ (by omega), ne (30 + t) (by omega) (by omega)]
      exact z.2 j j0 j1
  · intro t a b
    unfold gk_
    rw [f _ _ (by omega), f _ _ (by omega), ne 0 (by omega) (by omega), ne 5 (by omega) (by omega), ne 7 (by omega) (by omega)]
    exact g t a b
  · refine ⟨by rw [zf_z, ne 1 (by omega) (by omega)]; exact i1, by unfold YC_; rw [ne 0 (by omega) (by omega)]; exact i2, by rw [ne 0 (by omega) (by omega)]; omega, yp, by unfold YG_; rw [ne 0 (by omega) (by omega), ne 5 (by omega) (by omega), ne 6 (by omega) (by omega), ne 7 (by omega) (by omega), ne 8 (by omega) (by omega), ne 9 (by omega) (by omega)]; exact i5, ?_⟩
    unfold YN_
    rw [ne 0 (by omega) (by omega), ne 10 (by omega) (by omega), ne 11 (by omega) (by omega)]
    refine ⟨fun t a b => ?_, fun t a b => ?_⟩
    · rw [ne (20 + t) (by omega) (by omega)]
      exact i6.1 t a b
    · rw [ne (30 + t) (by omega) (by omega)]
      exact i6.2 t a b
theorem ynt_0 {y : PH} {T : Int → Int} {s l : Int} : ynt y T s l 0 = fu_ (y 0) 0 (y 0 0 + 1) := if_pos rfl
theorem ynt_10 {y : PH} {T : Int → Int} {s l : Int} : ynt y T s l 10 = fu_ (y 10) (y 0 0) l := by unfold ynt; rw [if_neg (by omega), if_pos rfl]
theorem ynt_ne {y : PH} {T : Int → Int} {s l x : Int} (a : ¬ x = 0) (b : ¬ x = 10) (c : ¬ x = 20 + y 0 0) : ynt y T s l x = y x := by unfold ynt; rw [if_neg a, if_neg b, if_neg c]
theorem ynt_n {y : PH} {T : Int → Int} {s l : Int} (a : 0 ≤ y 0 0) : ynt y T s l (20 + y 0 0) = fun k => T (s + k) := by unfold ynt; rw [if_neg (by omega), if_neg (by omega), if_pos rfl]
theorem ynp_0 {y : PH} {T : Int → Int} {s l : Int} : ynp y T s l 0 = fu_ (y 0) 1 (y 0 1 + 1) := if_pos rfl
theorem ynp_11 {y : PH} {T : Int → Int} {s l : Int} : ynp y T s l 11 = fu_ (y 11) (y 0 1) l := by unfold ynp; rw [if_neg (by omega), if_pos rfl]
theorem ynp_ne {y : PH} {T : Int → Int} {s l x : Int} (a : ¬ x = 0) (b : ¬ x = 11) (c : ¬ x = 30 + y 0 1) : ynp y T s l x = y x := by unfold ynp; rw [if_neg a, if_neg b, if_neg c]
theorem ynp_n {y : PH} {T : Int → Int} {s l : Int} (a : 0 ≤ y 0 1) : ynp y T s l (30 + y 0 1) = fun k => T (s + k) := by unfold ynp; rw [if_neg (by omega), if_neg (by omega), if_pos rfl]
theorem fu_0 {F : Int → Int} {k v x : Int} (e : ¬ x = k) : fu_ F k v x = F x := if_neg e
/-- a thing's name added -/
theorem rs_nt {h0 h h' y : PH} {v n m a s p l : Int} {T : Int → Int} (hv : v = 3 ∨ v = 42) (R : RS_ h0 v n m a s y h) (t8 : y 0 0 < 8) (hG : G h') (l1 : 1 ≤ l) (l6 : l ≤ 6) (hT : ∀ k : Int, 0 ≤ k → k < l → 97 ≤ T (p + k) ∧ T (p + k) ≤ 122) (f : ∀ x k : Int, ¬ (x = v + 1 ∧ k = 1) → ¬ (x = v + 2 ∧ k = y 0 0) → ¬ x = v + 4 + y 0 0 → h' x k = h x k) (e1 : h' (v + 1) 1 = y 0 0 + 1) (e2 : h' (v + 2) (y 0 0) = l) (e3 : ∀ k : Int, 0 ≤ k → k < l → h' (v + 4 + y 0 0) k = T (p + k)) : RS_ h0 v n m a s (ynt y T p l) h' := by
  obtain ⟨⟨-, r2, r3⟩, ⟨d1, d2, d3, d4⟩, ⟨p1, p2, p3, p4⟩, cn, g, i⟩ := R
  obtain ⟨i1, i2, i3, i4, i5, i6⟩ := i
  have hTT := i2.1
  have hP := i2.2.1
  have hGG := i2.2.2
  have ne : ∀ x : Int, ¬ x = 0 → ¬ x = 10 → (x < 20 ∨ 30 ≤ x) → ynt y T p l x = y x := fun x a b c => ynt_ne a b (by omega)
  have n1 := ne 1 (by omega) (by omega) (by omega)
  have n2 := ne 2 (by omega) (by omega) (by omega)
  have n3 := ne 3 (by omega) (by omega) (by omega)
  have n5 := ne 5 (by omega) (by omega) (by omega)
  have n6 := ne 6 (by omega) (by omega) (by omega)
  have n7 := ne 7 (by omega) (by omega) (by omega)
  have n8 := ne 8 (by omega) (by omega) (by omega)
  have n9 := ne 9 (by omega) (by omega) (by omega)
  have n11 := ne 11 (by omega) (by omega) (by omega)
  have e00 : ynt y T p l 0 0 = y 0 0 + 1 := by rw [ynt_0, fu_eq]
  have e01 : ynt y T p l 0 1 = y 0 1 := by rw [ynt_0, fu_ne (by omega)]
  have e02 : ynt y T p l 0 2 = y 0 2 := by rw [ynt_0, fu_ne (by omega)]
  refine ⟨⟨hG, fun x k a b c d => by rw [f x k (by omega) (by omega) (by omega)]; exact r2 x k a b c d, by rw [f _ _ (by rcases hv with z | z <;> omega) (by rcases hv with z | z <;> omega) (by rcases hv with z | z <;> omega)]; exact r3⟩, ⟨by rw [f _ _ (by rcases hv with z | z <;> omega) (by rcases hv with z | z <;> omega) (by rcases hv with z | z <;> omega)]; exact d1, by rw [f _ _ (by rcases hv with z | z <;> omega) (by rcases hv with z | z <;> omega) (by rcases hv with z | z <;> omega)]; exact d2, by rw [f _ _ (by rcases hv with z | z <;> omega) (by rcases hv with z | z <;> omega) (by rcases hv with z | z <;> omega)]; exact d3, by rw [f _ _ (by rcases hv with z | z <;> omega) (by rcases hv with z | z <;> omega) (by rcases hv with z | z <;> omega)]; exact d4⟩, ?_, ?_, ?_, ?_⟩
  · unfold PY_
    rw [zkn_to n2 n3, e00, e01, e02, n1, n2, n3, n5, n6, n7, n8, n9]
    refine ⟨⟨e1, by rw [f _ _ (by omega) (by omega) (by omega)]; exact p1.2.1, by rw [f _ _ (by omega) (by omega) (by omega)]; exact p1.2.2⟩, fun k a b => by rw [f _ _ (by rcases hv with z | z <;> omega) (by rcases hv with z | z <;> omega) (by rcases hv with z | z <;> omega)]; exact p2 k a b, fun p a b => ?_, fun t a b => ?_⟩
    · rw [f _ _ (by omega) (by omega) (by omega), f _ _ (by omega) (by omega) (by omega), f _ _ (by omega) (by omega) (by omega)]
      exact p3 p a b
    · rw [f _ _ (by omega) (by omega) (by omega), f _ _ (by omega) (by omega) (by omega), f _ _ (by omega) (by omega) (by omega), f _ _ (by omega) (by omega) (by omega), f _ _ (by omega) (by omega) (by omega)]
      exact p4 t a b
  · unfold CN_
    rw [e00, e01, n11, ynt_10]
    refine ⟨fun t a b => ?_, fun t a b => ?_⟩
    · by_cases e : t = y 0 0
      · rw [e, fu_eq, ynt_n hTT.1]
        exact ⟨e2, e3⟩
      · have z := cn.1 t a (by omega)
        rw [fu_ne e, ynt_ne (by omega) (by omega) (by omega), f _ _ (by omega) (by omega) (by omega)]
        refine ⟨z.1, fun j j0 j1 => ?_⟩
        rw [f _ _ (by omega) (by omega) (by omega)]
        exact z.2 j j0 j1
    · have z := cn.2 t a b
      refine ⟨by rw [f _ _ (by omega) (by omega) (by omega)]; exact z.1, fun j j0 j1 => ?_⟩
      rw [f _ _ (by omega) (by omega) (by omega), ne (30 + t) (by omega) (by omega) (by omega)]
      exact z.2 j j0 j1
  · intro t a b
    unfold gk_
    rw [f _ _ (by omega) (by omega) (by omega), f _ _ (by omega) (by omega) (by omega), e02, n5, n7]
    exact g t a b
  · refine ⟨by rw [zf_z, n1]; exact i1, by unfold YC_; rw [e00, e01, e02]; omega, by rw [e01]; exact i3, by unfold YP_; rw [n2, n3]; exact i4, ?_, ?_⟩
    · unfold YG_
      rw [e00, e01, e02, n5, n6, n7, n8, n9]
      intro t a b
      obtain ⟨g1, g2, g3, g4⟩ := i5 t a b
      exact ⟨g1, g2, fun z => by have := g3 z; omega, g4⟩
    · unfold YN_
      rw [e00, e01, n11, ynt_10]
      refine ⟨fun t a b => ?_, fun t a b => ?_⟩
      · by_cases e : t = y 0 0
        · rw [e, fu_eq, ynt_n hTT.1]
          exact ⟨⟨l1, l6⟩, hT⟩
        · rw [fu_ne e, ynt_ne (by omega) (by omega) (by omega)]
          exact i6.1 t a (by omega)
      · rw [ne (30 + t) (by omega) (by omega) (by omega)]
        exact i6.2 t a b
/-- a person's -/
theorem rs_np {h0 h h' y : PH} {v n m a s p l : Int} {T : Int → Int} (hv : v = 3 ∨ v = 42) (R : RS_ h0 v n m a s y h) (t8 : y 0 1 < 12) (hG : G h') (l1 : 1 ≤ l) (l6 : l ≤ 6) (hT : ∀ k : Int, 0 ≤ k → k < l → 97 ≤ T (p + k) ∧ T (p + k) ≤ 122) (f : ∀ x k : Int, ¬ (x = v + 14 ∧ k = 1) → ¬ (x = v + 15 ∧ k = y 0 1) → ¬ x = v + 17 + y 0 1 → h' x k = h x k) (e1 : h' (v + 14) 1 = y 0 1 + 1) (e2 : h' (v + 15) (y 0 1) = l) (e3 : ∀ k : Int, 0 ≤ k → k < l → h' (v + 17 + y 0 1) k = T (p + k)) : RS_ h0 v n m a s (ynp y T p l) h' := by
  obtain ⟨⟨-, r2, r3⟩, ⟨d1, d2, d3, d4⟩, ⟨p1, p2, p3, p4⟩, cn, g, i⟩ := R
  obtain ⟨i1, i2, i3, i4, i5, i6⟩ := i
  have hTT := i2.1
  have hP := i2.2.1
  have hGG := i2.2.2
  have ne : ∀ x : Int, ¬ x = 0 → ¬ x = 11 → x < 30 → ynp y T p l x = y x := fun x a b c => ynp_ne a b (by omega)
  have n1 := ne 1 (by omega) (by omega) (by omega)
  have n2 := ne 2 (by omega) (by omega) (by omega)
  have n3 := ne 3 (by omega) (by omega) (by omega)
  have n5 := ne 5 (by omega) (by omega) (by omega)
  have n6 := ne 6 (by omega) (by omega) (by omega)
  have n7 := ne 7 (by omega) (by omega) (by omega)
  have n8 := ne 8 (by omega) (by omega) (by omega)
  have n9 := ne 9 (by omega) (by omega) (by omega)
  have n10 := ne 10 (by omega) (by omega) (by omega)
  have e00 : ynp y T p l 0 1 = y 0 1 + 1 := by rw [ynp_0, fu_eq]
  have e01 : ynp y T p l 0 0 = y 0 0 := by rw [ynp_0, fu_ne (by omega)]
  have e02 : ynp y T p l 0 2 = y 0 2 := by rw [ynp_0, fu_ne (by omega)]
  refine ⟨⟨hG, fun x k a b c d => by rw [f x k (by omega) (by omega) (by omega)]; exact r2 x k a b c d, by rw [f _ _ (by rcases hv with z | z <;> omega) (by rcases hv with z | z <;> omega) (by rcases hv with z | z <;> omega)]; exact r3⟩, ⟨by rw [f _ _ (by rcases hv with z | z <;> omega) (by rcases hv with z | z <;> omega) (by rcases hv with z | z <;> omega)]; exact d1, by rw [f _ _ (by rcases hv with z | z <;> omega) (by rcases hv with z | z <;> omega) (by rcases hv with z | z <;> omega)]; exact d2, by rw [f _ _ (by rcases hv with z | z <;> omega) (by rcases hv with z | z <;> omega) (by rcases hv with z | z <;> omega)]; exact d3, by rw [f _ _ (by rcases hv with z | z <;> omega) (by rcases hv with z | z <;> omega) (by rcases hv with z | z <;> omega)]; exact d4⟩, ?_, ?_, ?_, ?_⟩
  · unfold PY_
    rw [zkn_to n2 n3, e00, e01, e02, n1, n2, n3, n5, n6, n7, n8, n9]
    refine ⟨⟨by rw [f _ _ (by omega) (by omega) (by omega)]; exact p1.1, e1, by rw [f _ _ (by omega) (by omega) (by omega)]; exact p1.2.2⟩, fun k a b => by rw [f _ _ (by rcases hv with z | z <;> omega) (by rcases hv with z | z <;> omega) (by rcases hv with z | z <;> omega)]; exact p2 k a b, fun p a b => ?_, fun t a b => ?_⟩
    · rw [f _ _ (by omega) (by omega) (by omega), f _ _ (by omega) (by omega) (by omega), f _ _ (by omega) (by omega) (by omega)]
      exact p3 p a b
    · rw [f _ _ (by omega) (by omega) (by omega), f _ _ (by omega) (by omega) (by omega), f _ _ (by omega) (by omega) (by omega), f _ _ (by omega) (by omega) (by omega), f _ _ (by omega) (by omega) (by omega)]
      exact p4 t a b
  · unfold CN_
    rw [e00, e01, n10, ynp_11]
    refine ⟨fun t a b => ?_, fun t a b => ?_⟩
    · have z := cn.1 t a b
      refine ⟨by rw [f _ _ (by omega) (by omega) (by omega)]; exact z.1, fun j j0 j1 => ?_⟩
      rw [f _ _ (by omega) (by omega) (by omega), ne (20 + t) (by omega) (by omega) (by omega)]
      exact z.2 j j0 j1
    · by_cases e : t = y 0 1
      · rw [e, fu_eq, ynp_n hP.1]
        exact ⟨e2, e3⟩
      · have z := cn.2 t a (by omega)
        rw [fu_ne e, ynp_ne (by omega) (by omega) (by omega), f _ _ (by omega) (by omega) (by omega)]
        refine ⟨z.1, fun j j0 j1 => ?_⟩
        rw [f _ _ (by omega) (by omega) (by omega)]
        exact z.2 j j0 j1
  · intro t a b
    unfold gk_
    rw [f _ _ (by omega) (by omega) (by omega), f _ _ (by omega) (by omega) (by omega), e02, n5, n7]
    exact g t a b
  · refine ⟨by rw [zf_z, n1]; exact i1, by unfold YC_; rw [e00, e01, e02]; omega, by rw [e00]; omega, by unfold YP_; rw [n2, n3]; exact i4, ?_, ?_⟩
    · unfold YG_
      rw [e00, e01, e02, n5, n6, n7, n8, n9]
      intro t a b
      obtain ⟨g1, g2, g3⟩ := i5 t a b
      exact ⟨g1, ⟨g2.1, by omega⟩, g3⟩
    · unfold YN_
      rw [e00, e01, n10, ynp_11]
      refine ⟨fun t a b => ?_, fun t a b => ?_⟩
      · rw [ne (20 + t) (by omega) (by omega) (by omega)]
        exact i6.1 t a b
      · by_cases e : t = y 0 1
        · rw [e, fu_eq, ynp_n hP.1]
          exact ⟨⟨l1, l6⟩, hT⟩
        · rw [fu_ne e, ynp_ne (by omega) (by omega) (by omega)]
          exact i6.2 t a (by omega)
