/-! the reference has taken what was told: its picture -/
theorem mr_read {z y h h1 : PH} (B : ZB z) (P : LN_ y h) (K : TK_ h h1) (g : G h1) (a14 : h 196 14 = 0) (a17 : h 196 17 = -1) (tp : ∀ k : Int, 0 ≤ k → k < 400 → h (196 + 9) k = z 51 k) (w1 : h 196 44 = z 54 0) (w2 : ∀ k : Int, 0 ≤ k → k < z 54 0 → h (196 + 27) k = z 55 k) : MR_ h1 (zread z y) := by
  obtain ⟨⟨a1, a2, a3⟩, a4, a5, a6, a7, a8, ⟨b1, b2, b3, b4, b5, b6⟩, c1, c2⟩ := P
  obtain ⟨⟨k1, k2, k3, k4⟩, k5, k6, k7, k8, k9⟩ := K
  have hT := b2.1
  have hP := b2.2.1
  have hN := b2.2.2
  have lo : ∀ x : Int, 0 ≤ x → x < 50 → zread z y x = y x := fun x p q => zread_lo p q
  have l0 := lo 0 (by omega) (by omega)
  obtain ⟨d1, d2, d3, d4, d5, d6, d7, d8, d9⟩ := B
  refine ⟨g, ⟨by rw [l0, k1]; exact a1, by rw [l0, k2]; exact a2, by rw [l0, k3]; exact a3⟩, fun k p q => ?_, ⟨by rw [k4, zread_0 (Or.inr rfl)], fun j k p q r s => ?_⟩, fun t p q => ?_, fun t p q => ?_, fun p a b => ?_, fun g v p q r s => ?_, ⟨by rw [k9 _ _ (by omega) (by omega) (by omega), zread_0 (Or.inl rfl)]; exact a14, fun k p q => by rw [k9 _ _ (by omega) (by omega) (by omega), zread_hi (Or.inr rfl)]; exact tp k p q⟩, by rw [k9 _ _ (by omega) (by omega) (by omega), zread_52]; exact a17, ⟨by rw [k9 _ _ (by omega) (by omega) (by omega), zread_hi (Or.inl (by omega))]; exact w1, fun k p q => ?_⟩, ⟨?_, ?_⟩, ⟨by rw [zread_0 (Or.inl rfl)]; exact ⟨by decide, by decide⟩, by rw [zread_hi (Or.inr rfl)]; exact d2, by rw [zread_52]; exact ⟨by decide, by decide⟩, fun t a b => ?_, fun p a b => ?_, by rw [zread_0 (Or.inr rfl)]; exact ⟨by decide, by decide⟩, fun j a b => ?_, by rw [zread_hi (Or.inl (by omega))]; exact d8, by rw [zread_hi (Or.inl (by omega)), zread_hi (Or.inl (by omega))]; exact d9⟩⟩
  · rw [k5 k p q, lo 1 (by omega) (by omega)]
    exact a4 k p q
  · rw [zread_0 (Or.inr rfl)] at q
    exact absurd (show j < 0 from q) (by omega)
  · rw [l0] at q
    rw [k6 t p (by omega), lo (20 + t) (by omega) (by omega), lo 10 (by omega) (by omega)]
    exact a5 t p q
  · rw [l0] at q
    rw [(k7 t p (by omega)).1, lo (30 + t) (by omega) (by omega), lo 11 (by omega) (by omega)]
    exact a6 t p q
  · rw [l0] at b
    have q := k7 p a (by omega)
    have w := a7 p a b
    have v := (b4 p a b).2.1
    rw [q.2.1, q.2.2, lo 2 (by omega) (by omega), lo 3 (by omega) (by omega), w.1, w.2]
    exact ⟨rfl, by rcases v with e | e <;> rw [e] <;> rfl⟩
  · rw [l0] at q
    rw [k8 _ (by omega) (by omega), lo (5 + v) (by omega) (by omega)]
    exact a8 g v p q r s
  · rw [zread_hi (Or.inl (by omega))] at q
    rw [k9 _ _ (by omega) (by omega) (by omega), zread_hi (Or.inl (by omega))]
    exact w2 k p q
  · rw [zf_z, lo 1 (by omega) (by omega)]
    exact zf_z.mp b1
  · unfold ZW
    rw [l0, lo 2 (by omega) (by omega), lo 3 (by omega) (by omega), lo 5 (by omega) (by omega), lo 6 (by omega) (by omega), lo 7 (by omega) (by omega), lo 8 (by omega) (by omega), lo 9 (by omega) (by omega)]
    exact ⟨hT, hP, hN, b4, b5⟩
  · rw [l0] at b
    rw [lo 10 (by omega) (by omega), lo (20 + t) (by omega) (by omega)]
    exact b6.1 t a b
  · rw [l0] at b
    rw [lo 11 (by omega) (by omega), lo (30 + p) (by omega) (by omega)]
    exact b6.2 p a b
  · rw [zread_0 (Or.inr rfl)] at b
    exact absurd (show j < 0 from b) (by omega)
/-- .. or it was wrong at f: all is as it was -/
theorem mr_wrong {z h h1 : PH} {f : Int} (M : MR_ h z) (g : G h1) (fr : ∀ x k : Int, pc_ x k → ¬ (x = 196 ∧ (k = 14 ∨ k = 17)) → h1 x k = h x k) (a14 : h1 196 14 = 0) (a17 : h1 196 17 = f) (f0 : 0 ≤ f) (f1 : f ≤ 400) : MR_ h1 (zwrong z f) := by
  obtain ⟨-, ⟨a1, a2, a3⟩, a4, ⟨a5, a6⟩, a7, a8, a9, b1, ⟨b2, b3⟩, b4, ⟨b5, b6⟩, b7, b8⟩ := M
  have F : ∀ x k : Int, (x = 196 + 1 ∨ (196 + 3 ≤ x ∧ x ≤ 196 + 9) ∨ x = 196 + 27 ∨ (x = 196 ∧ ((4 ≤ k ∧ k ≤ 7) ∨ k = 14 ∨ k = 17 ∨ k = 44))) → ¬ (x = 196 ∧ (k = 14 ∨ k = 17)) → h1 x k = h x k := fr
  have e : ∀ x : Int, ¬ x = 50 → ¬ x = 52 → zwrong z f x = z x := fun x p q => zwrong_ne p q
  have e0 := e 0 (by omega) (by omega)
  have e53 := e 53 (by omega) (by omega)
  have e54 := e 54 (by omega) (by omega)
  have e50 : zwrong z f 50 0 = 0 := rfl
  have e52 : zwrong z f 52 0 = f := rfl
  have hT := b7.2.1
  have hP := b7.2.2.1
  have hN := b7.2.2.2.1
  obtain ⟨d1, d2, d3, d4, d5, d6, d7, d8, d9⟩ := b8
  refine ⟨g, ⟨by rw [F _ _ (by omega) (by omega), e0]; exact a1, by rw [F _ _ (by omega) (by omega), e0]; exact a2, by rw [F _ _ (by omega) (by omega), e0]; exact a3⟩, fun k p q => by rw [F _ _ (by omega) (by omega), e 1 (by omega) (by omega)]; exact a4 k p q, ⟨by rw [F _ _ (by omega) (by omega), e53]; exact a5, fun j k p q r s => ?_⟩, fun t p q => ?_, fun t p q => ?_, fun p a b => ?_, fun g v p q r s => ?_, ⟨by rw [a14, e50], fun k p q => by rw [F _ _ (by omega) (by omega), e 51 (by omega) (by omega)]; exact b3 k p q⟩, by rw [a17, e52], ⟨by rw [F _ _ (by omega) (by omega), e54]; exact b5, fun k p q => ?_⟩, zi_oth b7 (fun x hx => e x (by omega) (by omega)), ⟨by rw [e50]; exact ⟨by decide, by decide⟩, by rw [e 51 (by omega) (by omega)]; exact d2, by rw [e52]; omega, fun t a b => ?_, fun p a b => ?_, by rw [e53]; exact d6, fun j a b => ?_, by rw [e54]; exact d8, by rw [e54, e 55 (by omega) (by omega)]; exact d9⟩⟩
  · rw [e53] at q
    rw [F _ _ (by omega) (by omega), e (60 + j) (by omega) (by omega)]
    exact a6 j k p q r s
  · rw [e0] at q
    rw [F _ _ (by omega) (by omega), e (20 + t) (by omega) (by omega), e 10 (by omega) (by omega)]
    exact a7 t p q
  · rw [e0] at q
    rw [F _ _ (by omega) (by omega), e (30 + t) (by omega) (by omega), e 11 (by omega) (by omega)]
    exact a8 t p q
  · rw [e0] at b
    rw [F _ _ (by omega) (by omega), F _ _ (by omega) (by omega), e 2 (by omega) (by omega), e 3 (by omega) (by omega)]
    exact a9 p a b
  · rw [e0] at q
    rw [F _ _ (by omega) (by omega), e (5 + v) (by omega) (by omega)]
    exact b1 g v p q r s
  · rw [e54] at q
    rw [F _ _ (by omega) (by omega), e 55 (by omega) (by omega)]
    exact b6 k p q
  · rw [e0] at b
    rw [e 10 (by omega) (by omega), e (20 + t) (by omega) (by omega)]
    exact d4 t a b
  · rw [e0] at b
    rw [e 11 (by omega) (by omega), e (30 + p) (by omega) (by omega)]
    exact d5 p a b
  · rw [e53] at b
    rw [e (60 + j) (by omega) (by omega)]
    exact d7 j a b
