/-! a gift put down -/
theorem ygi_0 {y : PH} {k p t m r : Int} : ygi y k p t m r 0 = fu_ (y 0) 2 (y 0 2 + 1) := if_pos rfl
theorem ygi_5 {y : PH} {k p t m r : Int} : ygi y k p t m r 5 = fu_ (y 5) (y 0 2) k := by unfold ygi; rw [if_neg (by omega), if_pos rfl]
theorem ygi_6 {y : PH} {k p t m r : Int} : ygi y k p t m r 6 = fu_ (y 6) (y 0 2) p := by unfold ygi; rw [if_neg (by omega), if_neg (by omega), if_pos rfl]
theorem ygi_7 {y : PH} {k p t m r : Int} : ygi y k p t m r 7 = fu_ (y 7) (y 0 2) t := by unfold ygi; rw [if_neg (by omega), if_neg (by omega), if_neg (by omega), if_pos rfl]
theorem ygi_8 {y : PH} {k p t m r : Int} : ygi y k p t m r 8 = fu_ (y 8) (y 0 2) m := by unfold ygi; rw [if_neg (by omega), if_neg (by omega), if_neg (by omega), if_neg (by omega), if_pos rfl]
theorem ygi_9 {y : PH} {k p t m r : Int} : ygi y k p t m r 9 = fu_ (y 9) (y 0 2) r := by unfold ygi; rw [if_neg (by omega), if_neg (by omega), if_neg (by omega), if_neg (by omega), if_neg (by omega), if_pos rfl]
theorem ygi_ne {y : PH} {k p t m r x : Int} (a : ¬ x = 0) (b : x < 5 ∨ 9 < x) : ygi y k p t m r x = y x := by unfold ygi; rw [if_neg a, if_neg (by omega), if_neg (by omega), if_neg (by omega), if_neg (by omega), if_neg (by omega)]
theorem gk_gi {y : PH} {k p t m r k' t' : Int} (h : 0 ≤ y 0 2) : gk_ (ygi y k p t m r) k' t' ↔ gk_ y k' t' ∨ (k' = k ∧ t' = t) := by
  unfold gk_
  rw [ygi_0, ygi_5, ygi_7, fu_eq]
  constructor
  · rintro ⟨g, g0, g1, g2, g3⟩
    by_cases e : g = y 0 2
    · rw [e, fu_eq] at g2 g3
      exact Or.inr ⟨g2.symm, g3.symm⟩
    · rw [fu_ne e] at g2 g3
      exact Or.inl ⟨g, g0, by omega, g2, g3⟩
  · rintro (⟨g, g0, g1, g2, g3⟩ | ⟨e1, e2⟩)
    · refine ⟨g, g0, by omega, ?_, ?_⟩
      · rw [fu_ne (by omega)]
        exact g2
      · rw [fu_ne (by omega)]
        exact g3
    · refine ⟨y 0 2, h, by omega, ?_, ?_⟩
      · rw [fu_eq, e1]
      · rw [fu_eq, e2]
theorem rs_g {h0 h h' y : PH} {v n m a s k p t mm r : Int} (hv : v = 3 ∨ v = 42) (R : RS_ h0 v n m a s y h) (em : m = y 0 1) (g12 : y 0 2 < 12) (hG : G h') (k0 : 0 ≤ k ∧ k ≤ 3) (hp : 0 ≤ p ∧ p < y 0 1) (ht : k = 0 ∨ k = 2 → 0 ≤ t ∧ t < y 0 0) (ht2 : k = 1 ∨ k = 3 → t = -1) (hm0 : k = 0 → mm = -1) (hm1 : k = 1 ∨ k = 2 → 1 ≤ mm ∧ mm ≤ 9999) (hm3 : k = 3 → 1 ≤ mm ∧ mm ≤ 9) (hr : k = 1 ∨ k = 2 → 1 ≤ r ∧ r ≤ 4) (hr2 : k = 0 ∨ k = 3 → r = -1)
    (f : ∀ x j : Int, ¬ (x = v ∧ j = 7) → ¬ (v + 32 ≤ x ∧ x ≤ v + 36 ∧ j = y 0 2) → ¬ x = v + 12 → ¬ x = v + 13 → h' x j = h x j) (e7 : h' v 7 = y 0 2 + 1) (e32 : h' (v + 32) (y 0 2) = k) (e33 : h' (v + 33) (y 0 2) = p) (e34 : h' (v + 34) (y 0 2) = t) (e35 : h' (v + 35) (y 0 2) = mm) (e36 : h' (v + 36) (y 0 2) = r)
    (gv : ∀ i : Int, 0 ≤ i → i < 8 → (¬ h' (v + 12) i = 0 ↔ ¬ h (v + 12) i = 0 ∨ (0 = k ∧ i = t)) ∧ (¬ h' (v + 13) i = 0 ↔ ¬ h (v + 13) i = 0 ∨ (2 = k ∧ i = t))) : RS_ h0 v n m a s (ygi y k p t mm r) h' := by
  obtain ⟨⟨-, r2, r3⟩, ⟨d1, d2, d3, d4⟩, ⟨p1, p2, p3, p4⟩, cn, g, i⟩ := R
  obtain ⟨i1, i2, i3, i4, i5, i6⟩ := i
  have hTT := i2.1
  have hP := i2.2.1
  have hGG := i2.2.2
  have ne : ∀ x : Int, ¬ x = 0 → (x < 5 ∨ 9 < x) → ygi y k p t mm r x = y x := fun x a b => ygi_ne a b
  have n1 := ne 1 (by omega) (by omega)
  have n2 := ne 2 (by omega) (by omega)
  have n3 := ne 3 (by omega) (by omega)
  have n10 := ne 10 (by omega) (by omega)
  have n11 := ne 11 (by omega) (by omega)
  have e02 : ygi y k p t mm r 0 2 = y 0 2 + 1 := by rw [ygi_0, fu_eq]
  have e00 : ygi y k p t mm r 0 0 = y 0 0 := by rw [ygi_0, fu_ne (by omega)]
  have e01 : ygi y k p t mm r 0 1 = y 0 1 := by rw [ygi_0, fu_ne (by omega)]
  have F : ∀ x j : Int, ¬ (v ≤ x ∧ x ≤ v + 36) → h' x j = h x j := fun x j hx => f x j (by omega) (by omega) (by omega) (by omega)
  have F2 : ∀ j : Int, h' 2 j = h 2 j := fun j => F 2 j (by rcases hv with z | z <;> omega)
  refine ⟨⟨hG, fun x k a b c d => by rw [F x k (by omega)]; exact r2 x k a b c d, by rw [F2]; exact r3⟩, ⟨by rw [F2]; exact d1, by rw [F2]; exact d2, by rw [F2]; exact d3, by rw [F2]; exact d4⟩, ?_, ?_, ?_, ?_⟩
  · unfold PY_
    rw [zkn_to n2 n3, e00, e01, e02, n1, n2, n3, ygi_5, ygi_6, ygi_7, ygi_8, ygi_9]
    refine ⟨⟨by rw [f _ _ (by omega) (by omega) (by omega) (by omega)]; exact p1.1, by rw [f _ _ (by omega) (by omega) (by omega) (by omega)]; exact p1.2.1, e7⟩, fun k a b => by rw [F _ _ (by rcases hv with z | z <;> omega)]; exact p2 k a b, fun p a b => ?_, fun t a b => ?_⟩
    · rw [f _ _ (by omega) (by omega) (by omega) (by omega), f _ _ (by omega) (by omega) (by omega) (by omega), f _ _ (by omega) (by omega) (by omega) (by omega)]
      exact p3 p a b
    · by_cases e : t = y 0 2
      · rw [e, fu_eq, fu_eq, fu_eq, fu_eq, fu_eq]
        exact ⟨e32, e33, e34, e35, e36⟩
      · rw [fu_ne e, fu_ne e, fu_ne e, fu_ne e, fu_ne e, f _ _ (by omega) (by omega) (by omega) (by omega), f _ _ (by omega) (by omega) (by omega) (by omega), f _ _ (by omega) (by omega) (by omega) (by omega), f _ _ (by omega) (by omega) (by omega) (by omega), f _ _ (by omega) (by omega) (by omega) (by omega)]
        exact p4 t a (by omega)
  · unfold CN_
    rw [e00, e01, n10, n11]
    refine ⟨fun t a b => ?_, fun t a b => ?_⟩
    · have z := cn.1 t a b
      refine ⟨by rw [f _ _ (by omega) (by omega) (by omega) (by omega)]; exact z.1, fun j j0 j1 => ?_⟩
      rw [f _ _ (by omega) (by omega) (by omega) (by omega), ne (20 + t) (by omega) (by omega)]
      exact z.2 j j0 j1
    · have z := cn.2 t a b
      refine ⟨by rw [f _ _ (by omega) (by omega) (by omega) (by omega)]; exact z.1, fun j j0 j1 => ?_⟩
      rw [f _ _ (by omega) (by omega) (by omega) (by omega), ne (30 + t) (by omega) (by omega)]
      exact z.2 j j0 j1
  · intro i a b
    have z := gv i a b
    have z2 := g i a b
    rw [gk_gi hGG.1, gk_gi hGG.1, ← z2.1, ← z2.2]
    exact z
  · refine ⟨by rw [zf_z, n1]; exact i1, by unfold YC_; rw [e00, e01, e02]; omega, by rw [e01]; exact i3, by unfold YP_; rw [n2, n3]; exact i4, ?_, ?_⟩
    · unfold YG_
      rw [e00, e01, e02, ygi_5, ygi_6, ygi_7, ygi_8, ygi_9]
      intro i a b
      by_cases e : i = y 0 2
      · rw [e, fu_eq, fu_eq, fu_eq, fu_eq, fu_eq]
        exact ⟨k0, hp, ht, ht2, hm0, hm1, hm3, hr, hr2⟩
      · rw [fu_ne e, fu_ne e, fu_ne e, fu_ne e, fu_ne e]
        exact i5 i a (by omega)
    · unfold YN_
      rw [e00, e01, n10, n11]
      refine ⟨fun t a b => ?_, fun t a b => ?_⟩
      · rw [ne (20 + t) (by omega) (by omega)]
        exact i6.1 t a b
      · rw [ne (30 + t) (by omega) (by omega)]
        exact i6.2 t a b
