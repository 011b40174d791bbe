/-! reads behind writes: used by simp with omega -/
theorem hs_same {h : PH} {a k v x y : Int} (e1 : x = a) (e2 : y = k) : hs_ h a k v x y = v := by rw [e1, e2, hs_eq]
theorem hs_oth {h : PH} {a k v x y : Int} (e : ¬ x = a) : hs_ h a k v x y = h x y := hs_ne h (fun q => e q.1)
theorem hs_otk {h : PH} {a k v x y : Int} (e : ¬ y = k) : hs_ h a k v x y = h x y := hs_ne h (fun q => e q.2)
theorem fl_oth {h : PH} {a i n v x y : Int} (e : ¬ x = a) : fl_ h a i n v x y = h x y := if_neg (fun q => e q.1)
theorem fl_in {h : PH} {a i n v x y : Int} (e : x = a) (e1 : i ≤ y) (e2 : y < n) : fl_ h a i n v x y = v := if_pos ⟨e, e1, e2⟩
theorem fl_out {h : PH} {a i n v x y : Int} (e : ¬ (i ≤ y ∧ y < n)) : fl_ h a i n v x y = h x y := if_neg (fun q => e q.2)
theorem cp_inn {h : PH} {a sp b dp n x y : Int} (e : x = b) (e1 : dp ≤ y) (e2 : y < dp + n) : cp_ h a sp b dp n x y = h a (sp + (y - dp)) := if_pos ⟨e, e1, e2⟩
theorem cp_outt {h : PH} {a sp b dp n x y : Int} (e : ¬ (dp ≤ y ∧ y < dp + n)) : cp_ h a sp b dp n x y = h x y := if_neg (fun q => e q.2)
