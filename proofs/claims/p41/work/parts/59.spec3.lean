/-! what acts make of the picture -/
def fu_ (F : Int → Int) (k v : Int) : Int → Int := fun x => if x = k then v else F x
/-- other facts -/
def zput (z : PH) (F : Int → Int) : PH := fun x => if x = 1 then F else z x
/-- the facts kept -/
def zkeep (z : PH) : PH := fun x => if x = 53 then fun _ => min 16 (z 53 0 + 1) else if 60 ≤ x ∧ x ≤ 75 then (if z 53 0 = 16 then (if x = 75 then z 1 else z (x + 1)) else if x = 60 + z 53 0 then z 1 else z x) else z x
def zundo (z : PH) : PH := fun x => if x = 1 then z (60 + (z 53 0 - 1)) else if x = 53 then fun _ => z 53 0 - 1 else z x
def fsold (F : Int → Int) (t p o : Int) : Int → Int := fu_ (fu_ (fu_ (fu_ F (8 + t) 1) (16 + t) p) (24 + t) o) 56 (F 56 + (p - o))
def flost (F : Int → Int) (t i : Int) : Int → Int := fu_ (fu_ F (8 + t) 2) (24 + t) i
theorem fu_eq {F : Int → Int} {k v : Int} : fu_ F k v k = v := if_pos rfl
theorem fu_ne {F : Int → Int} {k v x : Int} (e : ¬ x = k) : fu_ F k v x = F x := if_neg e
def zok (k v : Int) : Prop := (0 ≤ k ∧ k < 61) ∧ (k < 8 → 0 ≤ v ∧ v ≤ 9999) ∧ (8 ≤ k → k < 16 → 0 ≤ v ∧ v ≤ 2) ∧ (16 ≤ k → k < 32 → 0 ≤ v ∧ v ≤ 9999) ∧ (32 ≤ k → k < 56 → v = 0 ∨ v = 1) ∧ (56 ≤ k → k < 58 → 0 ≤ v ∧ v ≤ 99999) ∧ (k = 58 → 0 ≤ v ∧ v ≤ 240) ∧ (k = 59 → 0 ≤ v ∧ v ≤ 99) ∧ (k = 60 → 0 ≤ v ∧ v ≤ 1)
theorem zf_fu {F : Int → Int} {k v : Int} (H : ZF (fun _ => F)) (o : zok k v) : ZF (fun _ => fu_ F k v) := by
  obtain ⟨h1, h2, h3, h4, h5, h6, h7⟩ := H
  obtain ⟨o0, o1, o2, o3, o4, o5, o6, o7, o8⟩ := o
  refine ⟨fun t t0 t1 => ?_, fun p p0 p1 => ?_, ?_, ?_, ?_, ?_, ?_⟩
  · have := h1 t t0 t1
    dsimp only [fu_] at *
    refine ⟨?_, ?_, ?_, ?_⟩
    all_goals
      split
      · omega
      · omega
  · have := h2 p p0 p1
    dsimp only [fu_] at *
    refine ⟨?_, ?_⟩
    all_goals
      split
      · omega
      · omega
  all_goals
    dsimp only [fu_] at *
    split
    · omega
    · omega
theorem zf_z {z : PH} : ZF z ↔ ZF (fun _ => z 1) := Iff.rfl
theorem zput_1 (z : PH) (F : Int → Int) : zput z F 1 = F := if_pos rfl
theorem zput_ne {z : PH} {F : Int → Int} {x : Int} (e : ¬ x = 1) : zput z F x = z x := if_neg e
theorem zf_put {z : PH} {F : Int → Int} (H : ZF (fun _ => F)) : ZF (zput z F) := by
  rw [zf_z, zput_1]
  exact H
theorem zf_sold {F : Int → Int} {t p o : Int} (H : ZF (fun _ => F)) (t0 : 0 ≤ t) (t1 : t < 8) (p0 : 1 ≤ p) (p1 : p ≤ 9999) (o0 : 0 ≤ o) (o1 : o ≤ p) (hc : F 56 + p - o ≤ 99999) : ZF (fun _ => fsold F t p o) := by
  have h6 := H.2.2.1
  dsimp only at h6
  unfold fsold
  refine zf_fu (zf_fu (zf_fu (zf_fu H ?_) ?_) ?_) ?_
  all_goals
    unfold zok
    omega
theorem zf_lost {F : Int → Int} {t p : Int} (H : ZF (fun _ => F)) (t0 : 0 ≤ t) (t1 : t < 8) (p0 : 0 ≤ p) (p1 : p ≤ 9999) : ZF (fun _ => flost F t p) := by
  unfold flost
  refine zf_fu (zf_fu H ?_) ?_
  all_goals
    unfold zok
    omega
theorem zw_to {z z' : PH} (W : ZW z) (e : ∀ x : Int, 0 ≤ x → x < 10 → ¬ x = 1 → z' x = z x) : ZW z' := by
  have e0 := e 0 (by omega) (by omega) (by omega)
  have e2 := e 2 (by omega) (by omega) (by omega)
  have e3 := e 3 (by omega) (by omega) (by omega)
  have e5 := e 5 (by omega) (by omega) (by omega)
  have e6 := e 6 (by omega) (by omega) (by omega)
  have e7 := e 7 (by omega) (by omega) (by omega)
  have e8 := e 8 (by omega) (by omega) (by omega)
  have e9 := e 9 (by omega) (by omega) (by omega)
  unfold ZW
  rw [e0, e2, e3, e5, e6, e7, e8, e9]
  exact W
theorem zi_put {z : PH} {F : Int → Int} (I : ZI z) (H : ZF (fun _ => F)) : ZI (zput z F) := ⟨zf_put H, zw_to I.2 (fun x _ _ h => zput_ne h)⟩
theorem zkn_to {z z' : PH} (e2 : z' 2 = z 2) (e3 : z' 3 = z 3) : zkn z' = zkn z := by
  funext p
  unfold zkn
  rw [e2, e3]
/-- what acts change in the class's heap -/
theorem cr_to {h h' z z' : PH} (C : CR_ h z) (hG : G h') (e : ∀ x : Int, ¬ x = 1 → (x < 53 ∨ x = 54 ∨ x = 55) → z' x = z x) (f : ∀ x y : Int, (x < 79 ∨ 194 < x) → ¬ (x = 0 ∧ y = 7) → h' x y = h x y) (eF : ∀ k : Int, 0 ≤ k → k < 61 → h' (0 + 79 + 1) k = z' 1 k) (zf : ZF z') (b53 : 0 ≤ z' 53 0 ∧ z' 53 0 ≤ 16) (bk : ∀ j : Int, 0 ≤ j → j < z' 53 0 → ZF (fun _ => z' (60 + j))) (ca : CA_ h' z') (s : h' 0 7 = 1) : CR_ h' z' := by
  obtain ⟨-, c1, c2, c3, c4, c5, c6, c7, c8, c9, -⟩ := C
  have e3 : h' 0 3 = h 0 3 := f _ _ (by omega) (by omega)
  have e0 := e 0 (by omega) (by omega)
  have g2 := e 2 (by omega) (by omega)
  have g3 := e 3 (by omega) (by omega)
  have hT := c1.2.1
  have hP := c1.2.2.1
  refine ⟨hG, ⟨zf, zw_to c1.2 (fun x a b c => e x c (by omega))⟩, ?_, ?_, ?_, ?_, ?_, ?_, ca, ?_, ⟨Or.inr s, fun q => absurd q (by omega)⟩⟩
  · obtain ⟨d1, d2, d3, d4, d5, d6, d7, d8, d9⟩ := c2
    refine ⟨by rw [e 50 (by omega) (by omega)]; exact d1, by rw [e 51 (by omega) (by omega)]; exact d2, by rw [e 52 (by omega) (by omega)]; exact d3, fun t a b => ?_, fun p a b => ?_, b53, bk, by rw [e 54 (by omega) (by omega)]; exact d8, by rw [e 54 (by omega) (by omega), e 55 (by omega) (by omega)]; exact d9⟩
    · rw [e0] at b
      rw [e 10 (by omega) (by omega), e (20 + t) (by omega) (by omega)]
      exact d4 t a b
    · rw [e0] at b
      rw [e 11 (by omega) (by omega), e (30 + p) (by omega) (by omega)]
      exact d5 p a b
  · rw [e3, f 2 0 (by omega) (by omega)]
    exact c3
  · obtain ⟨a1, a2, a3, a4⟩ := c4
    have F : ∀ x y : Int, h 0 3 ≤ x → x ≤ h 0 3 + 36 → h' x y = h x y := fun x y p q => f x y (by rcases c3 with r | r <;> omega) (by rcases c3 with r | r <;> omega)
    rw [e3]
    unfold PR_
    rw [e0, g2, g3, e 5 (by omega) (by omega), e 6 (by omega) (by omega), e 7 (by omega) (by omega), e 8 (by omega) (by omega), e 9 (by omega) (by omega), zkn_to g2 g3]
    refine ⟨by rw [F _ _ (by omega) (by omega), F _ _ (by omega) (by omega), F _ _ (by omega) (by omega)]; exact a1, eF, fun p p0 p1 => ?_, fun g g0 g1 => ?_⟩
    · rw [F _ _ (by omega) (by omega), F _ _ (by omega) (by omega), F _ _ (by omega) (by omega)]
      exact a3 p p0 p1
    · rw [F _ _ (by omega) (by omega), F _ _ (by omega) (by omega), F _ _ (by omega) (by omega), F _ _ (by omega) (by omega), F _ _ (by omega) (by omega)]
      exact a4 g g0 g1
  · rw [e3]
    unfold CN_
    rw [e0, e 10 (by omega) (by omega), e 11 (by omega) (by omega)]
    refine ⟨fun t a b => ?_, fun t a b => ?_⟩
    · have q := c5.1 t a b
      refine ⟨by rw [f _ _ (by rcases c3 with q | q <;> omega) (by rcases c3 with q | q <;> omega)]; exact q.1, fun j j0 j1 => ?_⟩
      rw [f _ _ (by rcases c3 with q | q <;> omega) (by rcases c3 with q | q <;> omega), e (20 + t) (by omega) (by omega)]
      exact q.2 j j0 j1
    · have q := c5.2 t a b
      refine ⟨by rw [f _ _ (by rcases c3 with q | q <;> omega) (by rcases c3 with q | q <;> omega)]; exact q.1, fun j j0 j1 => ?_⟩
      rw [f _ _ (by rcases c3 with q | q <;> omega) (by rcases c3 with q | q <;> omega), e (30 + t) (by omega) (by omega)]
      exact q.2 j j0 j1
  · rw [e 50 (by omega) (by omega), e 51 (by omega) (by omega)]
    refine ⟨by rw [f _ _ (by omega) (by omega)]; exact c6.1, fun k a b => ?_⟩
    rw [f _ _ (by omega) (by omega)]
    exact c6.2 k a b
  · rw [f _ _ (by omega) (by omega), e 52 (by omega) (by omega)]
    exact c7
  · obtain ⟨a1, a2, a3, a4, a5, a6⟩ := c9
    unfold CS_
    rw [e 54 (by omega) (by omega), e 55 (by omega) (by omega)]
    refine ⟨by rw [f _ _ (by omega) (by omega)]; exact a1, fun k a b => by rw [f _ _ (by omega) (by omega)]; exact a2 k a b, ?_, ?_, ?_, ?_⟩
    · rw [f _ _ (by omega) (by omega)]; exact a3
    · rw [f _ _ (by omega) (by omega)]; exact a4
    · rw [f _ _ (by omega) (by omega)]; exact a5
    · rw [f _ _ (by omega) (by omega)]; exact a6
/-- other facts told -/
theorem cr_facts {h h' z : PH} {F : Int → Int} (C : CR_ h z) (hG : G h') (s : h 0 7 = 1) (f : ∀ x y : Int, ¬ x = 0 + 79 + 1 → h' x y = h x y) (eF : ∀ k : Int, 0 ≤ k → k < 61 → h' (0 + 79 + 1) k = F k) (zf : ZF (fun _ => F)) : CR_ h' (zput z F) := by
  have B := cr_b C
  obtain ⟨a1, a2, a3⟩ := C.2.2.2.2.2.2.2.2.1
  refine cr_to C hG (fun x a _ => zput_ne a) (fun x y a _ => f x y (by omega)) (fun k a b => by rw [zput_1]; exact eF k a b) (zf_put zf) (by rw [zput_ne (by omega)]; exact B.2.2.2.2.2.1) (fun j a b => ?_) ⟨?_, ?_, fun j k a b c d => ?_⟩ (by rw [f _ _ (by omega)]; exact s)
  · rw [zput_ne (by omega)] at b ⊢
    exact B.2.2.2.2.2.2.1 j a b
  · rw [f _ _ (by omega), zput_ne (by omega)]
    exact a1
  · rw [f _ _ (by omega)]
    exact a2
  · rw [zput_ne (by omega)] at b ⊢
    rw [f 81 1 (by omega), f _ _ (by omega), zput_ne (x := 60 + j) (by omega)]
    exact a3 j k a b c d
theorem cr_keep {h h' z : PH} (C : CR_ h z) (hG : G h') (f : ∀ x y : Int, ¬ x = 81 → ¬ x = 83 + h 81 1 → ¬ (x = 0 ∧ y = 7) → h' x y = h x y) (n1 : h' 81 1 = if h 81 1 = 15 then 0 else h 81 1 + 1) (n2 : h' 81 2 = min 16 (h 81 2 + 1)) (ek : ∀ k : Int, 0 ≤ k → k < 61 → h' (83 + h 81 1) k = h (0 + 79 + 1) k) (s : h' 0 7 = 1) : CR_ h' (zkeep z) := by
  have B := cr_b C
  obtain ⟨a1, a2, a3⟩ := C.2.2.2.2.2.2.2.2.1
  have a4 := C.2.2.2.2.1.2.1
  have b53 := B.2.2.2.2.2.1
  have k53 : zkeep z 53 0 = min 16 (z 53 0 + 1) := by
    unfold zkeep
    rw [if_pos rfl]
  have kne : ∀ x : Int, x < 53 ∨ x = 54 ∨ x = 55 → zkeep z x = z x := fun x hx => by
    unfold zkeep
    rw [if_neg (by omega), if_neg (by omega)]
  have kk : ∀ j : Int, 0 ≤ j → j < 16 → zkeep z (60 + j) = if z 53 0 = 16 then (if j = 15 then z 1 else z (60 + (j + 1))) else if j = z 53 0 then z 1 else z (60 + j) := fun j j0 j1 => by
    unfold zkeep
    rw [if_neg (by omega), if_pos ⟨by omega, by omega⟩]
    by_cases c : z 53 0 = 16
    · rw [if_pos c, if_pos c]
      by_cases e : j = 15
      · rw [if_pos (by omega), if_pos e]
      · rw [if_neg (by omega), if_neg e, show 60 + j + 1 = 60 + (j + 1) by omega]
    · rw [if_neg c, if_neg c]
      by_cases e : j = z 53 0
      · rw [if_pos (by omega), if_pos e]
      · rw [if_neg (by omega), if_neg e]
  refine cr_to C hG (fun x _ b => kne x b) (fun x y a b => f x y (by omega) (by omega) b) (fun k a b => ?_) ?_ (by rw [k53]; omega) (fun j a b => ?_) ⟨?_, ?_, fun j k a b c d => ?_⟩ s
  · rw [f _ _ (by omega) (by omega) (by omega), kne 1 (by omega)]
    exact a4 k a b
  · rw [zf_z, kne 1 (by omega)]
    exact C.2.1.1
  · rw [k53] at b
    rw [kk j a (by omega)]
    split
    · split
      · exact C.2.1.1
      · exact B.2.2.2.2.2.2.1 _ (by omega) (by omega)
    · split
      · exact C.2.1.1
      · exact B.2.2.2.2.2.2.1 _ (by omega) (by omega)
  · rw [n2, k53, a1]
  · rw [n1]
    split <;> omega
  · rw [k53] at b ⊢
    rw [n1, kk j a (by omega)]
    have last : (j = z 53 0 ∨ (z 53 0 = 16 ∧ j = 15)) → h' (83 + ((if h 81 1 = 15 then 0 else h 81 1 + 1) - min 16 (z 53 0 + 1) + j) % 16) k = z 1 k := fun q => by
      rw [show 83 + ((if h 81 1 = 15 then 0 else h 81 1 + 1) - min 16 (z 53 0 + 1) + j) % 16 = 83 + h 81 1 by split <;> omega, ek k c d]
      exact a4 k c d
    have old : ∀ i : Int, 0 ≤ i → i < z 53 0 → ¬ (z 53 0 = 16 ∧ i = 0) → (j = i ∧ ¬ z 53 0 = 16 ∨ (z 53 0 = 16 ∧ i = j + 1)) → h' (83 + ((if h 81 1 = 15 then 0 else h 81 1 + 1) - min 16 (z 53 0 + 1) + j) % 16) k = z (60 + i) k := fun i i0 i1 i2 q => by
      rw [show 83 + ((if h 81 1 = 15 then 0 else h 81 1 + 1) - min 16 (z 53 0 + 1) + j) % 16 = 83 + (h 81 1 - z 53 0 + i) % 16 by split <;> omega, f _ _ (by omega) (by omega) (by omega)]
      exact a3 i k i0 i1 c d
    by_cases c1 : z 53 0 = 16
    · rw [if_pos c1]
      by_cases c2 : j = 15
      · rw [if_pos c2]
        exact last (Or.inr ⟨c1, c2⟩)
      · rw [if_neg c2]
        exact old (j + 1) (by omega) (by omega) (by omega) (Or.inr ⟨c1, rfl⟩)
    · rw [if_neg c1]
      by_cases c2 : j = z 53 0
      · rw [if_pos c2]
        exact last (Or.inl c2)
      · rw [if_neg c2]
        exact old j a (by omega) (by omega) (Or.inl ⟨rfl, c1⟩)
theorem cr_undo {h h' z : PH} (C : CR_ h z) (hc : 0 < z 53 0) (hG : G h') (f : ∀ x y : Int, ¬ x = 81 → ¬ x = 0 + 79 + 1 → ¬ (x = 0 ∧ y = 7) → h' x y = h x y) (n1 : h' 81 1 = if h 81 1 = 0 then 15 else h 81 1 - 1) (n2 : h' 81 2 = max 0 (h 81 2 - 1)) (ek : ∀ k : Int, 0 ≤ k → k < 61 → h' (0 + 79 + 1) k = h (83 + (if h 81 1 = 0 then 15 else h 81 1 - 1)) k) (s : h' 0 7 = 1) : CR_ h' (zundo z) := by
  have B := cr_b C
  obtain ⟨a1, a2, a3⟩ := C.2.2.2.2.2.2.2.2.1
  have b53 := B.2.2.2.2.2.1
  have k53 : zundo z 53 0 = z 53 0 - 1 := by
    unfold zundo
    rw [if_neg (by omega), if_pos rfl]
  have k1 : zundo z 1 = z (60 + (z 53 0 - 1)) := by
    unfold zundo
    rw [if_pos rfl]
  have kne : ∀ x : Int, ¬ x = 1 → ¬ x = 53 → zundo z x = z x := fun x hx hy => by
    unfold zundo
    rw [if_neg hx, if_neg hy]
  refine cr_to C hG (fun x a b => kne x a (by omega)) (fun x y a b => f x y (by omega) (by omega) b) (fun k a b => ?_) ?_ (by rw [k53]; omega) (fun j a b => ?_) ⟨?_, ?_, fun j k a b c d => ?_⟩ s
  · rw [k1, ek k a b, ← a3 (z 53 0 - 1) k (by omega) (by omega) a b]
    rw [show 83 + (if h 81 1 = 0 then 15 else h 81 1 - 1) = 83 + (h 81 1 - z 53 0 + (z 53 0 - 1)) % 16 by split <;> omega]
  · rw [zf_z, k1]
    exact B.2.2.2.2.2.2.1 _ (by omega) (by omega)
  · rw [k53] at b
    rw [kne _ (by omega) (by omega)]
    exact B.2.2.2.2.2.2.1 _ a (by omega)
  · rw [n2, k53, a1]
    omega
  · rw [n1]
    split <;> omega
  · rw [k53] at b ⊢
    rw [n1, kne _ (by omega) (by omega), f _ _ (by omega) (by omega) (by omega), ← a3 j k a (by omega) c d]
    rw [show 83 + ((if h 81 1 = 0 then 15 else h 81 1 - 1) - (z 53 0 - 1) + j) % 16 = 83 + (h 81 1 - z 53 0 + j) % 16 by split <;> omega]
/-- what is supposed alone has changed -/
theorem cr_sup {h h' z : PH} (C : CR_ h z) (hG : G h') (f : ∀ x y : Int, (x < 0 + 146 ∨ 194 < x) → h' x y = h x y) : CR_ h' z := by
  refine cr_fr C hG (fun x y a _ => f x y (by omega)) ?_
  obtain ⟨a1, a2⟩ := C.2.2.2.2.2.2.2.2.2.2
  refine ⟨by rw [f _ _ (by omega)]; exact a1, fun s => ?_⟩
  rw [f _ _ (by omega)] at s
  obtain ⟨b1, b2⟩ := a2 s
  refine ⟨by rw [f _ _ (by omega), f _ _ (by omega)]; exact b1, RD_to b2 C.2.1 (fun x y a b => f x y (by omega))⟩
