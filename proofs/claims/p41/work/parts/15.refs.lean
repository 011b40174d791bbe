/-! which cell a fixed reference speaks of: (whose, which place, which cell) -/
/-- how many names -/
def nl_ (a : Int) : Nat := if a = 4 ∨ a = 43 then 8 else 12
def rfL_ : List (Int × Int × Int) := [(0, 0, 1), (0, 2, 2), (0, 4, 79), (0, 5, 81), (0, 6, 99), (0, 8, 146), (0, 9, 148), (0, 10, 195), (2, 1, 40), (2, 3, 1), (3, 0, 4), (3, 1, 15), (3, 2, 16), (3, 3, 17), (3, 4, 32), (3, 5, 33), (3, 6, 34), (3, 8, 35), (3, 9, 36), (3, 10, 37), (3, 11, 38), (3, 12, 39), (4, 0, 5), (4, 2, 6), (6, 0, 7), (6, 1, 8), (6, 2, 9), (6, 3, 10), (6, 4, 11), (6, 5, 12), (6, 6, 13), (6, 7, 14), (17, 0, 18), (17, 2, 19), (19, 0, 20), (19, 1, 21), (19, 2, 22), (19, 3, 23), (19, 4, 24), (19, 5, 25), (19, 6, 26), (19, 7, 27), (19, 8, 28), (19, 9, 29), (19, 10, 30), (19, 11, 31), (40, 0, 41), (42, 0, 43), (42, 1, 54), (42, 2, 55), (42, 3, 56), (42, 4, 71), (42, 5, 72), (42, 6, 73), (42, 8, 74), (42, 9, 75), (42, 10, 76), (42, 11, 77), (42, 12, 78), (43, 0, 44), (43, 2, 45), (45, 0, 46), (45, 1, 47), (45, 2, 48), (45, 3, 49), (45, 4, 50), (45, 5, 51), (45, 6, 52), (45, 7, 53), (56, 0, 57), (56, 2, 58), (58, 0, 59), (58, 1, 60), (58, 2, 61), (58, 3, 62), (58, 4, 63), (58, 5, 64), (58, 6, 65), (58, 7, 66), (58, 8, 67), (58, 9, 68), (58, 10, 69), (58, 11, 70), (79, 0, 80), (81, 0, 82), (82, 0, 83), (82, 1, 84), (82, 2, 85), (82, 3, 86), (82, 4, 87), (82, 5, 88), (82, 6, 89), (82, 7, 90), (82, 8, 91), (82, 9, 92), (82, 10, 93), (82, 11, 94), (82, 12, 95), (82, 13, 96), (82, 14, 97), (82, 15, 98), (99, 0, 100), (99, 1, 101), (99, 2, 102), (99, 3, 103), (99, 4, 116), (99, 5, 129), (99, 6, 142), (99, 15, 79), (99, 16, 143), (99, 17, 144), (99, 18, 145), (103, 0, 104), (103, 1, 105), (103, 2, 106), (103, 3, 107), (103, 4, 108), (103, 5, 109), (103, 6, 110), (103, 7, 111), (103, 8, 112), (103, 9, 113), (103, 10, 114), (103, 11, 115), (116, 0, 117), (116, 1, 118), (116, 2, 119), (116, 3, 120), (116, 4, 121), (116, 5, 122), (116, 6, 123), (116, 7, 124), (116, 8, 125), (116, 9, 126), (116, 10, 127), (116, 11, 128), (129, 0, 130), (129, 1, 131), (129, 2, 132), (129, 3, 133), (129, 4, 134), (129, 5, 135), (129, 6, 136), (129, 7, 137), (129, 8, 138), (129, 9, 139), (129, 10, 140), (129, 11, 141), (146, 0, 147), (148, 0, 149), (148, 1, 150), (148, 2, 151), (148, 3, 152), (148, 4, 165), (148, 5, 178), (148, 6, 191), (148, 15, 146), (148, 16, 192), (148, 17, 193), (148, 18, 194), (152, 0, 153), (152, 1, 154), (152, 2, 155), (152, 3, 156), (152, 4, 157), (152, 5, 158), (152, 6, 159), (152, 7, 160), (152, 8, 161), (152, 9, 162), (152, 10, 163), (152, 11, 164), (165, 0, 166), (165, 1, 167), (165, 2, 168), (165, 3, 169), (165, 4, 170), (165, 5, 171), (165, 6, 172), (165, 7, 173), (165, 8, 174), (165, 9, 175), (165, 10, 176), (165, 11, 177), (178, 0, 179), (178, 1, 180), (178, 2, 181), (178, 3, 182), (178, 4, 183), (178, 5, 184), (178, 6, 185), (178, 7, 186), (178, 8, 187), (178, 9, 188), (178, 10, 189), (178, 11, 190)]
def RF (h : PH) : Prop := ∀ q ∈ rfL_, h q.1 q.2.1 = q.2.2
theorem rf_at {h : PH} (hR : RF h) {a k b : Int} (m : (a, k, b) ∈ rfL_) : h a k = b := hR (a, k, b) m
/-- a place that no fixed reference has is written -/
theorem rf_put {h : PH} (hR : RF h) {a k v : Int} (m : ∀ q ∈ rfL_, ¬ (q.1 = a ∧ q.2.1 = k)) : RF (hs_ h a k v) := fun q hq => by rw [hs_ne h (m q hq)]; exact hR q hq
/-- .. where none of an array is one -/
def rfA_ (a : Int) : Bool := rfL_.all (fun q => decide (q.1 ≠ a))
theorem rf_putA {h : PH} (hR : RF h) {a k v : Int} (m : rfA_ a = true) : RF (hs_ h a k v) := rf_put hR fun q hq e => by
  have := List.all_eq_true.mp m q hq
  exact (of_decide_eq_true this) e.1
theorem io_0 : isO nN 0 6 := ⟨by decide, by decide, by decide +kernel⟩
theorem io_of_6 {a : Int} (A : isO nN a 6) : a = 0 := by
  have h1 : ∀ n, n < nN → sh_ n = (6 + 6, uN_ 6) → n = 0 := by decide +kernel
  have h2 := h1 a.toNat A.2.1 A.2.2
  have h3 := A.1
  omega
/-- WillHouse.tape -/
theorem rf_6_0 {h : PH} {a : Int} (hR : RF h) (A : isO nN a 6) : h a 0 = a + 1 := by
  rcases io_of_6 A with rfl <;> exact rf_at hR (by decide +kernel)
theorem rk_6_0 {a : Int} (A : isO nN a 6) : isA nN (a + 1) 1 400 := by
  rcases io_of_6 A with rfl <;> exact ⟨by decide, by decide, by decide +kernel, by decide⟩
/-- WillHouse.reader -/
theorem rf_6_2 {h : PH} {a : Int} (hR : RF h) (A : isO nN a 6) : h a 2 = a + 2 := by
  rcases io_of_6 A with rfl <;> exact rf_at hR (by decide +kernel)
theorem rk_6_2 {a : Int} (A : isO nN a 6) : isO nN (a + 2) 3 := by
  rcases io_of_6 A with rfl <;> exact ⟨by decide, by decide, by decide +kernel⟩
/-- WillHouse.facts -/
theorem rf_6_4 {h : PH} {a : Int} (hR : RF h) (A : isO nN a 6) : h a 4 = a + 79 := by
  rcases io_of_6 A with rfl <;> exact rf_at hR (by decide +kernel)
theorem rk_6_4 {a : Int} (A : isO nN a 6) : isO nN (a + 79) 1 := by
  rcases io_of_6 A with rfl <;> exact ⟨by decide, by decide, by decide +kernel⟩
/-- WillHouse.acts -/
theorem rf_6_5 {h : PH} {a : Int} (hR : RF h) (A : isO nN a 6) : h a 5 = a + 81 := by
  rcases io_of_6 A with rfl <;> exact rf_at hR (by decide +kernel)
theorem rk_6_5 {a : Int} (A : isO nN a 6) : isO nN (a + 81) 0 := by
  rcases io_of_6 A with rfl <;> exact ⟨by decide, by decide, by decide +kernel⟩
/-- WillHouse.reckoned -/
theorem rf_6_6 {h : PH} {a : Int} (hR : RF h) (A : isO nN a 6) : h a 6 = a + 99 := by
  rcases io_of_6 A with rfl <;> exact rf_at hR (by decide +kernel)
theorem rk_6_6 {a : Int} (A : isO nN a 6) : isO nN (a + 99) 4 := by
  rcases io_of_6 A with rfl <;> exact ⟨by decide, by decide, by decide +kernel⟩
/-- WillHouse.supposed -/
theorem rf_6_8 {h : PH} {a : Int} (hR : RF h) (A : isO nN a 6) : h a 8 = a + 146 := by
  rcases io_of_6 A with rfl <;> exact rf_at hR (by decide +kernel)
theorem rk_6_8 {a : Int} (A : isO nN a 6) : isO nN (a + 146) 1 := by
  rcases io_of_6 A with rfl <;> exact ⟨by decide, by decide, by decide +kernel⟩
/-- WillHouse.trial -/
theorem rf_6_9 {h : PH} {a : Int} (hR : RF h) (A : isO nN a 6) : h a 9 = a + 148 := by
  rcases io_of_6 A with rfl <;> exact rf_at hR (by decide +kernel)
theorem rk_6_9 {a : Int} (A : isO nN a 6) : isO nN (a + 148) 4 := by
  rcases io_of_6 A with rfl <;> exact ⟨by decide, by decide, by decide +kernel⟩
/-- WillHouse.written -/
theorem rf_6_10 {h : PH} {a : Int} (hR : RF h) (A : isO nN a 6) : h a 10 = a + 195 := by
  rcases io_of_6 A with rfl <;> exact rf_at hR (by decide +kernel)
theorem rk_6_10 {a : Int} (A : isO nN a 6) : isO nN (a + 195) 9 := by
  rcases io_of_6 A with rfl <;> exact ⟨by decide, by decide, by decide +kernel⟩
theorem io_2 : isO nN 2 3 := ⟨by decide, by decide, by decide +kernel⟩
theorem io_of_3 {a : Int} (A : isO nN a 3) : a = 2 := by
  have h1 : ∀ n, n < nN → sh_ n = (3 + 6, uN_ 3) → n = 2 := by decide +kernel
  have h2 := h1 a.toNat A.2.1 A.2.2
  have h3 := A.1
  omega
/-- Reader.facts -/
theorem rf_3_1 {h : PH} {a : Int} (hR : RF h) (A : isO nN a 3) : h a 1 = a + 38 := by
  rcases io_of_3 A with rfl <;> exact rf_at hR (by decide +kernel)
theorem rk_3_1 {a : Int} (A : isO nN a 3) : isO nN (a + 38) 1 := by
  rcases io_of_3 A with rfl <;> exact ⟨by decide, by decide, by decide +kernel⟩
/-- Reader.text -/
theorem rf_3_3 {h : PH} {a : Int} (hR : RF h) (A : isO nN a 3) : h a 3 = a + -1 := by
  rcases io_of_3 A with rfl <;> exact rf_at hR (by decide +kernel)
theorem rk_3_3 {a : Int} (A : isO nN a 3) : isA nN (a + -1) 1 400 := by
  rcases io_of_3 A with rfl <;> exact ⟨by decide, by decide, by decide +kernel, by decide⟩
theorem io_3 : isO nN 3 5 := ⟨by decide, by decide, by decide +kernel⟩
theorem io_42 : isO nN 42 5 := ⟨by decide, by decide, by decide +kernel⟩
theorem io_of_5 {a : Int} (A : isO nN a 5) : a = 3 ∨ a = 42 := by
  have h1 : ∀ n, n < nN → sh_ n = (5 + 6, uN_ 5) → n = 3 ∨ n = 42 := by decide +kernel
  have h2 := h1 a.toNat A.2.1 A.2.2
  have h3 := A.1
  omega
/-- Will.things -/
theorem rf_5_0 {h : PH} {a : Int} (hR : RF h) (A : isO nN a 5) : h a 0 = a + 1 := by
  rcases io_of_5 A with rfl | rfl <;> exact rf_at hR (by decide +kernel)
theorem rk_5_0 {a : Int} (A : isO nN a 5) : isO nN (a + 1) 2 := by
  rcases io_of_5 A with rfl | rfl <;> exact ⟨by decide, by decide, by decide +kernel⟩
/-- Will.given -/
theorem rf_5_1 {h : PH} {a : Int} (hR : RF h) (A : isO nN a 5) : h a 1 = a + 12 := by
  rcases io_of_5 A with rfl | rfl <;> exact rf_at hR (by decide +kernel)
theorem rk_5_1 {a : Int} (A : isO nN a 5) : isA nN (a + 12) 2 8 := by
  rcases io_of_5 A with rfl | rfl <;> exact ⟨by decide, by decide, by decide +kernel, by decide⟩
/-- Will.fund -/
theorem rf_5_2 {h : PH} {a : Int} (hR : RF h) (A : isO nN a 5) : h a 2 = a + 13 := by
  rcases io_of_5 A with rfl | rfl <;> exact rf_at hR (by decide +kernel)
theorem rk_5_2 {a : Int} (A : isO nN a 5) : isA nN (a + 13) 2 8 := by
  rcases io_of_5 A with rfl | rfl <;> exact ⟨by decide, by decide, by decide +kernel, by decide⟩
/-- Will.persons -/
theorem rf_5_3 {h : PH} {a : Int} (hR : RF h) (A : isO nN a 5) : h a 3 = a + 14 := by
  rcases io_of_5 A with rfl | rfl <;> exact rf_at hR (by decide +kernel)
theorem rk_5_3 {a : Int} (A : isO nN a 5) : isO nN (a + 14) 2 := by
  rcases io_of_5 A with rfl | rfl <;> exact ⟨by decide, by decide, by decide +kernel⟩
/-- Will.parent -/
theorem rf_5_4 {h : PH} {a : Int} (hR : RF h) (A : isO nN a 5) : h a 4 = a + 29 := by
  rcases io_of_5 A with rfl | rfl <;> exact rf_at hR (by decide +kernel)
theorem rk_5_4 {a : Int} (A : isO nN a 5) : isA nN (a + 29) 0 12 := by
  rcases io_of_5 A with rfl | rfl <;> exact ⟨by decide, by decide, by decide +kernel, by decide⟩
/-- Will.child -/
theorem rf_5_5 {h : PH} {a : Int} (hR : RF h) (A : isO nN a 5) : h a 5 = a + 30 := by
  rcases io_of_5 A with rfl | rfl <;> exact rf_at hR (by decide +kernel)
theorem rk_5_5 {a : Int} (A : isO nN a 5) : isA nN (a + 30) 2 12 := by
  rcases io_of_5 A with rfl | rfl <;> exact ⟨by decide, by decide, by decide +kernel, by decide⟩
/-- Will.kin -/
theorem rf_5_6 {h : PH} {a : Int} (hR : RF h) (A : isO nN a 5) : h a 6 = a + 31 := by
  rcases io_of_5 A with rfl | rfl <;> exact rf_at hR (by decide +kernel)
theorem rk_5_6 {a : Int} (A : isO nN a 5) : isA nN (a + 31) 2 12 := by
  rcases io_of_5 A with rfl | rfl <;> exact ⟨by decide, by decide, by decide +kernel, by decide⟩
/-- Will.kind -/
theorem rf_5_8 {h : PH} {a : Int} (hR : RF h) (A : isO nN a 5) : h a 8 = a + 32 := by
  rcases io_of_5 A with rfl | rfl <;> exact rf_at hR (by decide +kernel)
theorem rk_5_8 {a : Int} (A : isO nN a 5) : isA nN (a + 32) 0 12 := by
  rcases io_of_5 A with rfl | rfl <;> exact ⟨by decide, by decide, by decide +kernel, by decide⟩
/-- Will.person -/
theorem rf_5_9 {h : PH} {a : Int} (hR : RF h) (A : isO nN a 5) : h a 9 = a + 33 := by
  rcases io_of_5 A with rfl | rfl <;> exact rf_at hR (by decide +kernel)
theorem rk_5_9 {a : Int} (A : isO nN a 5) : isA nN (a + 33) 0 12 := by
  rcases io_of_5 A with rfl | rfl <;> exact ⟨by decide, by decide, by decide +kernel, by decide⟩
/-- Will.thing -/
theorem rf_5_10 {h : PH} {a : Int} (hR : RF h) (A : isO nN a 5) : h a 10 = a + 34 := by
  rcases io_of_5 A with rfl | rfl <;> exact rf_at hR (by decide +kernel)
theorem rk_5_10 {a : Int} (A : isO nN a 5) : isA nN (a + 34) 0 12 := by
  rcases io_of_5 A with rfl | rfl <;> exact ⟨by decide, by decide, by decide +kernel, by decide⟩
/-- Will.amount -/
theorem rf_5_11 {h : PH} {a : Int} (hR : RF h) (A : isO nN a 5) : h a 11 = a + 35 := by
  rcases io_of_5 A with rfl | rfl <;> exact rf_at hR (by decide +kernel)
theorem rk_5_11 {a : Int} (A : isO nN a 5) : isA nN (a + 35) 0 12 := by
  rcases io_of_5 A with rfl | rfl <;> exact ⟨by decide, by decide, by decide +kernel, by decide⟩
/-- Will.rank -/
theorem rf_5_12 {h : PH} {a : Int} (hR : RF h) (A : isO nN a 5) : h a 12 = a + 36 := by
  rcases io_of_5 A with rfl | rfl <;> exact rf_at hR (by decide +kernel)
theorem rk_5_12 {a : Int} (A : isO nN a 5) : isA nN (a + 36) 0 12 := by
  rcases io_of_5 A with rfl | rfl <;> exact ⟨by decide, by decide, by decide +kernel, by decide⟩
theorem io_4 : isO nN 4 2 := ⟨by decide, by decide, by decide +kernel⟩
theorem io_17 : isO nN 17 2 := ⟨by decide, by decide, by decide +kernel⟩
theorem io_43 : isO nN 43 2 := ⟨by decide, by decide, by decide +kernel⟩
theorem io_56 : isO nN 56 2 := ⟨by decide, by decide, by decide +kernel⟩
theorem io_of_2 {a : Int} (A : isO nN a 2) : a = 4 ∨ a = 17 ∨ a = 43 ∨ a = 56 := by
  have h1 : ∀ n, n < nN → sh_ n = (2 + 6, uN_ 2) → n = 4 ∨ n = 17 ∨ n = 43 ∨ n = 56 := by decide +kernel
  have h2 := h1 a.toNat A.2.1 A.2.2
  have h3 := A.1
  omega
/-- Names.lengths -/
theorem rf_2_0 {h : PH} {a : Int} (hR : RF h) (A : isO nN a 2) : h a 0 = a + 1 := by
  rcases io_of_2 A with rfl | rfl | rfl | rfl <;> exact rf_at hR (by decide +kernel)
theorem rk_2_0 {a : Int} (A : isO nN a 2) : isA nN (a + 1) 0 (nl_ a) := by
  rcases io_of_2 A with rfl | rfl | rfl | rfl <;> exact ⟨by decide, by decide, by decide +kernel, by decide⟩
/-- Names.letters -/
theorem rf_2_2 {h : PH} {a : Int} (hR : RF h) (A : isO nN a 2) : h a 2 = a + 2 := by
  rcases io_of_2 A with rfl | rfl | rfl | rfl <;> exact rf_at hR (by decide +kernel)
theorem rk_2_2 {a : Int} (A : isO nN a 2) : isA nN (a + 2) 5 (nl_ a) := by
  rcases io_of_2 A with rfl | rfl | rfl | rfl <;> exact ⟨by decide, by decide, by decide +kernel, by decide⟩
theorem rw_2_2 {h : PH} {a i : Int} (hR : RF h) (A : isO nN a 2) (h0 : 0 ≤ i) (h1 : i < nl_ a) : h (a + 2) i = a + 2 + 1 + i := by
  rcases io_of_2 A with rfl | rfl | rfl | rfl
  · have e : nl_ 4 = 8 := by decide
    rw [e] at h1
    have hi : i = 0 ∨ i = 1 ∨ i = 2 ∨ i = 3 ∨ i = 4 ∨ i = 5 ∨ i = 6 ∨ i = 7 := by omega
    rcases hi with rfl | rfl | rfl | rfl | rfl | rfl | rfl | rfl <;> exact rf_at hR (by decide +kernel)
  · have e : nl_ 17 = 12 := by decide
    rw [e] at h1
    have hi : i = 0 ∨ i = 1 ∨ i = 2 ∨ i = 3 ∨ i = 4 ∨ i = 5 ∨ i = 6 ∨ i = 7 ∨ i = 8 ∨ i = 9 ∨ i = 10 ∨ i = 11 := by omega
    rcases hi with rfl | rfl | rfl | rfl | rfl | rfl | rfl | rfl | rfl | rfl | rfl | rfl <;> exact rf_at hR (by decide +kernel)
  · have e : nl_ 43 = 8 := by decide
    rw [e] at h1
    have hi : i = 0 ∨ i = 1 ∨ i = 2 ∨ i = 3 ∨ i = 4 ∨ i = 5 ∨ i = 6 ∨ i = 7 := by omega
    rcases hi with rfl | rfl | rfl | rfl | rfl | rfl | rfl | rfl <;> exact rf_at hR (by decide +kernel)
  · have e : nl_ 56 = 12 := by decide
    rw [e] at h1
    have hi : i = 0 ∨ i = 1 ∨ i = 2 ∨ i = 3 ∨ i = 4 ∨ i = 5 ∨ i = 6 ∨ i = 7 ∨ i = 8 ∨ i = 9 ∨ i = 10 ∨ i = 11 := by omega
    rcases hi with rfl | rfl | rfl | rfl | rfl | rfl | rfl | rfl | rfl | rfl | rfl | rfl <;> exact rf_at hR (by decide +kernel)
theorem rx_2_2 {a i : Int} (A : isO nN a 2) (h0 : 0 ≤ i) (h1 : i < nl_ a) : isA nN (a + 2 + 1 + i) 1 6 := by
  rcases io_of_2 A with rfl | rfl | rfl | rfl
  · have e : nl_ 4 = 8 := by decide
    rw [e] at h1
    have hi : i = 0 ∨ i = 1 ∨ i = 2 ∨ i = 3 ∨ i = 4 ∨ i = 5 ∨ i = 6 ∨ i = 7 := by omega
    rcases hi with rfl | rfl | rfl | rfl | rfl | rfl | rfl | rfl <;> exact ⟨by decide, by decide, by decide +kernel, by decide⟩
  · have e : nl_ 17 = 12 := by decide
    rw [e] at h1
    have hi : i = 0 ∨ i = 1 ∨ i = 2 ∨ i = 3 ∨ i = 4 ∨ i = 5 ∨ i = 6 ∨ i = 7 ∨ i = 8 ∨ i = 9 ∨ i = 10 ∨ i = 11 := by omega
    rcases hi with rfl | rfl | rfl | rfl | rfl | rfl | rfl | rfl | rfl | rfl | rfl | rfl <;> exact ⟨by decide, by decide, by decide +kernel, by decide⟩
  · have e : nl_ 43 = 8 := by decide
    rw [e] at h1
    have hi : i = 0 ∨ i = 1 ∨ i = 2 ∨ i = 3 ∨ i = 4 ∨ i = 5 ∨ i = 6 ∨ i = 7 := by omega
    rcases hi with rfl | rfl | rfl | rfl | rfl | rfl | rfl | rfl <;> exact ⟨by decide, by decide, by decide +kernel, by decide⟩
  · have e : nl_ 56 = 12 := by decide
    rw [e] at h1
    have hi : i = 0 ∨ i = 1 ∨ i = 2 ∨ i = 3 ∨ i = 4 ∨ i = 5 ∨ i = 6 ∨ i = 7 ∨ i = 8 ∨ i = 9 ∨ i = 10 ∨ i = 11 := by omega
    rcases hi with rfl | rfl | rfl | rfl | rfl | rfl | rfl | rfl | rfl | rfl | rfl | rfl <;> exact ⟨by decide, by decide, by decide +kernel, by decide⟩
theorem io_40 : isO nN 40 1 := ⟨by decide, by decide, by decide +kernel⟩
theorem io_79 : isO nN 79 1 := ⟨by decide, by decide, by decide +kernel⟩
theorem io_146 : isO nN 146 1 := ⟨by decide, by decide, by decide +kernel⟩
theorem io_of_1 {a : Int} (A : isO nN a 1) : a = 40 ∨ a = 79 ∨ a = 146 := by
  have h1 : ∀ n, n < nN → sh_ n = (1 + 6, uN_ 1) → n = 40 ∨ n = 79 ∨ n = 146 := by decide +kernel
  have h2 := h1 a.toNat A.2.1 A.2.2
  have h3 := A.1
  omega
/-- Facts.cells -/
theorem rf_1_0 {h : PH} {a : Int} (hR : RF h) (A : isO nN a 1) : h a 0 = a + 1 := by
  rcases io_of_1 A with rfl | rfl | rfl <;> exact rf_at hR (by decide +kernel)
theorem rk_1_0 {a : Int} (A : isO nN a 1) : isA nN (a + 1) 0 61 := by
  rcases io_of_1 A with rfl | rfl | rfl <;> exact ⟨by decide, by decide, by decide +kernel, by decide⟩
theorem io_81 : isO nN 81 0 := ⟨by decide, by decide, by decide +kernel⟩
theorem io_of_0 {a : Int} (A : isO nN a 0) : a = 81 := by
  have h1 : ∀ n, n < nN → sh_ n = (0 + 6, uN_ 0) → n = 81 := by decide +kernel
  have h2 := h1 a.toNat A.2.1 A.2.2
  have h3 := A.1
  omega
/-- Acts.kept -/
theorem rf_0_0 {h : PH} {a : Int} (hR : RF h) (A : isO nN a 0) : h a 0 = a + 1 := by
  rcases io_of_0 A with rfl <;> exact rf_at hR (by decide +kernel)
theorem rk_0_0 {a : Int} (A : isO nN a 0) : isA nN (a + 1) 4 16 := by
  rcases io_of_0 A with rfl <;> exact ⟨by decide, by decide, by decide +kernel, by decide⟩
theorem rw_0_0 {h : PH} {a i : Int} (hR : RF h) (A : isO nN a 0) (h0 : 0 ≤ i) (h1 : i < 16) : h (a + 1) i = a + 1 + 1 + i := by
  have hi : i = 0 ∨ i = 1 ∨ i = 2 ∨ i = 3 ∨ i = 4 ∨ i = 5 ∨ i = 6 ∨ i = 7 ∨ i = 8 ∨ i = 9 ∨ i = 10 ∨ i = 11 ∨ i = 12 ∨ i = 13 ∨ i = 14 ∨ i = 15 := by omega
  rcases io_of_0 A with rfl <;> rcases hi with rfl | rfl | rfl | rfl | rfl | rfl | rfl | rfl | rfl | rfl | rfl | rfl | rfl | rfl | rfl | rfl <;> exact rf_at hR (by decide +kernel)
theorem rx_0_0 {a i : Int} (A : isO nN a 0) (h0 : 0 ≤ i) (h1 : i < 16) : isA nN (a + 1 + 1 + i) 0 61 := by
  have hi : i = 0 ∨ i = 1 ∨ i = 2 ∨ i = 3 ∨ i = 4 ∨ i = 5 ∨ i = 6 ∨ i = 7 ∨ i = 8 ∨ i = 9 ∨ i = 10 ∨ i = 11 ∨ i = 12 ∨ i = 13 ∨ i = 14 ∨ i = 15 := by omega
  rcases io_of_0 A with rfl <;> rcases hi with rfl | rfl | rfl | rfl | rfl | rfl | rfl | rfl | rfl | rfl | rfl | rfl | rfl | rfl | rfl | rfl <;> exact ⟨by decide, by decide, by decide +kernel, by decide⟩
theorem io_99 : isO nN 99 4 := ⟨by decide, by decide, by decide +kernel⟩
theorem io_148 : isO nN 148 4 := ⟨by decide, by decide, by decide +kernel⟩
theorem io_of_4 {a : Int} (A : isO nN a 4) : a = 99 ∨ a = 148 := by
  have h1 : ∀ n, n < nN → sh_ n = (4 + 6, uN_ 4) → n = 99 ∨ n = 148 := by decide +kernel
  have h2 := h1 a.toNat A.2.1 A.2.2
  have h3 := A.1
  omega
/-- Reckoning.living -/
theorem rf_4_0 {h : PH} {a : Int} (hR : RF h) (A : isO nN a 4) : h a 0 = a + 1 := by
  rcases io_of_4 A with rfl | rfl <;> exact rf_at hR (by decide +kernel)
theorem rk_4_0 {a : Int} (A : isO nN a 4) : isA nN (a + 1) 0 12 := by
  rcases io_of_4 A with rfl | rfl <;> exact ⟨by decide, by decide, by decide +kernel, by decide⟩
/-- Reckoning.lapses -/
theorem rf_4_1 {h : PH} {a : Int} (hR : RF h) (A : isO nN a 4) : h a 1 = a + 2 := by
  rcases io_of_4 A with rfl | rfl <;> exact rf_at hR (by decide +kernel)
theorem rk_4_1 {a : Int} (A : isO nN a 4) : isA nN (a + 2) 2 12 := by
  rcases io_of_4 A with rfl | rfl <;> exact ⟨by decide, by decide, by decide +kernel, by decide⟩
/-- Reckoning.fundLeft -/
theorem rf_4_2 {h : PH} {a : Int} (hR : RF h) (A : isO nN a 4) : h a 2 = a + 3 := by
  rcases io_of_4 A with rfl | rfl <;> exact rf_at hR (by decide +kernel)
theorem rk_4_2 {a : Int} (A : isO nN a 4) : isA nN (a + 3) 0 8 := by
  rcases io_of_4 A with rfl | rfl <;> exact ⟨by decide, by decide, by decide +kernel, by decide⟩
/-- Reckoning.due -/
theorem rf_4_3 {h : PH} {a : Int} (hR : RF h) (A : isO nN a 4) : h a 3 = a + 4 := by
  rcases io_of_4 A with rfl | rfl <;> exact rf_at hR (by decide +kernel)
theorem rk_4_3 {a : Int} (A : isO nN a 4) : isA nN (a + 4) 4 12 := by
  rcases io_of_4 A with rfl | rfl <;> exact ⟨by decide, by decide, by decide +kernel, by decide⟩
theorem rw_4_3 {h : PH} {a i : Int} (hR : RF h) (A : isO nN a 4) (h0 : 0 ≤ i) (h1 : i < 12) : h (a + 4) i = a + 4 + 1 + i := by
  have hi : i = 0 ∨ i = 1 ∨ i = 2 ∨ i = 3 ∨ i = 4 ∨ i = 5 ∨ i = 6 ∨ i = 7 ∨ i = 8 ∨ i = 9 ∨ i = 10 ∨ i = 11 := by omega
  rcases io_of_4 A with rfl | rfl <;> rcases hi with rfl | rfl | rfl | rfl | rfl | rfl | rfl | rfl | rfl | rfl | rfl | rfl <;> exact rf_at hR (by decide +kernel)
theorem rx_4_3 {a i : Int} (A : isO nN a 4) (h0 : 0 ≤ i) (h1 : i < 12) : isA nN (a + 4 + 1 + i) 0 7 := by
  have hi : i = 0 ∨ i = 1 ∨ i = 2 ∨ i = 3 ∨ i = 4 ∨ i = 5 ∨ i = 6 ∨ i = 7 ∨ i = 8 ∨ i = 9 ∨ i = 10 ∨ i = 11 := by omega
  rcases io_of_4 A with rfl | rfl <;> rcases hi with rfl | rfl | rfl | rfl | rfl | rfl | rfl | rfl | rfl | rfl | rfl | rfl <;> exact ⟨by decide, by decide, by decide +kernel, by decide⟩
/-- Reckoning.gets -/
theorem rf_4_4 {h : PH} {a : Int} (hR : RF h) (A : isO nN a 4) : h a 4 = a + 17 := by
  rcases io_of_4 A with rfl | rfl <;> exact rf_at hR (by decide +kernel)
theorem rk_4_4 {a : Int} (A : isO nN a 4) : isA nN (a + 17) 4 12 := by
  rcases io_of_4 A with rfl | rfl <;> exact ⟨by decide, by decide, by decide +kernel, by decide⟩
theorem rw_4_4 {h : PH} {a i : Int} (hR : RF h) (A : isO nN a 4) (h0 : 0 ≤ i) (h1 : i < 12) : h (a + 17) i = a + 17 + 1 + i := by
  have hi : i = 0 ∨ i = 1 ∨ i = 2 ∨ i = 3 ∨ i = 4 ∨ i = 5 ∨ i = 6 ∨ i = 7 ∨ i = 8 ∨ i = 9 ∨ i = 10 ∨ i = 11 := by omega
  rcases io_of_4 A with rfl | rfl <;> rcases hi with rfl | rfl | rfl | rfl | rfl | rfl | rfl | rfl | rfl | rfl | rfl | rfl <;> exact rf_at hR (by decide +kernel)
theorem rx_4_4 {a i : Int} (A : isO nN a 4) (h0 : 0 ≤ i) (h1 : i < 12) : isA nN (a + 17 + 1 + i) 0 7 := by
  have hi : i = 0 ∨ i = 1 ∨ i = 2 ∨ i = 3 ∨ i = 4 ∨ i = 5 ∨ i = 6 ∨ i = 7 ∨ i = 8 ∨ i = 9 ∨ i = 10 ∨ i = 11 := by omega
  rcases io_of_4 A with rfl | rfl <;> rcases hi with rfl | rfl | rfl | rfl | rfl | rfl | rfl | rfl | rfl | rfl | rfl | rfl <;> exact ⟨by decide, by decide, by decide +kernel, by decide⟩
/-- Reckoning.takes -/
theorem rf_4_5 {h : PH} {a : Int} (hR : RF h) (A : isO nN a 4) : h a 5 = a + 30 := by
  rcases io_of_4 A with rfl | rfl <;> exact rf_at hR (by decide +kernel)
theorem rk_4_5 {a : Int} (A : isO nN a 4) : isA nN (a + 30) 4 12 := by
  rcases io_of_4 A with rfl | rfl <;> exact ⟨by decide, by decide, by decide +kernel, by decide⟩
theorem rw_4_5 {h : PH} {a i : Int} (hR : RF h) (A : isO nN a 4) (h0 : 0 ≤ i) (h1 : i < 12) : h (a + 30) i = a + 30 + 1 + i := by
  have hi : i = 0 ∨ i = 1 ∨ i = 2 ∨ i = 3 ∨ i = 4 ∨ i = 5 ∨ i = 6 ∨ i = 7 ∨ i = 8 ∨ i = 9 ∨ i = 10 ∨ i = 11 := by omega
  rcases io_of_4 A with rfl | rfl <;> rcases hi with rfl | rfl | rfl | rfl | rfl | rfl | rfl | rfl | rfl | rfl | rfl | rfl <;> exact rf_at hR (by decide +kernel)
theorem rx_4_5 {a i : Int} (A : isO nN a 4) (h0 : 0 ≤ i) (h1 : i < 12) : isA nN (a + 30 + 1 + i) 0 12 := by
  have hi : i = 0 ∨ i = 1 ∨ i = 2 ∨ i = 3 ∨ i = 4 ∨ i = 5 ∨ i = 6 ∨ i = 7 ∨ i = 8 ∨ i = 9 ∨ i = 10 ∨ i = 11 := by omega
  rcases io_of_4 A with rfl | rfl <;> rcases hi with rfl | rfl | rfl | rfl | rfl | rfl | rfl | rfl | rfl | rfl | rfl | rfl <;> exact ⟨by decide, by decide, by decide +kernel, by decide⟩
/-- Reckoning.inherits -/
theorem rf_4_6 {h : PH} {a : Int} (hR : RF h) (A : isO nN a 4) : h a 6 = a + 43 := by
  rcases io_of_4 A with rfl | rfl <;> exact rf_at hR (by decide +kernel)
theorem rk_4_6 {a : Int} (A : isO nN a 4) : isA nN (a + 43) 0 12 := by
  rcases io_of_4 A with rfl | rfl <;> exact ⟨by decide, by decide, by decide +kernel, by decide⟩
theorem rf_4_15_99 {h : PH} (hR : RF h) : h 99 15 = 79 := rf_at hR (by decide +kernel)
theorem rf_4_15_148 {h : PH} (hR : RF h) : h 148 15 = 146 := rf_at hR (by decide +kernel)
/-- Reckoning.weights -/
theorem rf_4_16 {h : PH} {a : Int} (hR : RF h) (A : isO nN a 4) : h a 16 = a + 44 := by
  rcases io_of_4 A with rfl | rfl <;> exact rf_at hR (by decide +kernel)
theorem rk_4_16 {a : Int} (A : isO nN a 4) : isA nN (a + 44) 0 12 := by
  rcases io_of_4 A with rfl | rfl <;> exact ⟨by decide, by decide, by decide +kernel, by decide⟩
/-- Reckoning.rests -/
theorem rf_4_17 {h : PH} {a : Int} (hR : RF h) (A : isO nN a 4) : h a 17 = a + 45 := by
  rcases io_of_4 A with rfl | rfl <;> exact rf_at hR (by decide +kernel)
theorem rk_4_17 {a : Int} (A : isO nN a 4) : isA nN (a + 45) 3 12 := by
  rcases io_of_4 A with rfl | rfl <;> exact ⟨by decide, by decide, by decide +kernel, by decide⟩
/-- Reckoning.passing -/
theorem rf_4_18 {h : PH} {a : Int} (hR : RF h) (A : isO nN a 4) : h a 18 = a + 46 := by
  rcases io_of_4 A with rfl | rfl <;> exact rf_at hR (by decide +kernel)
theorem rk_4_18 {a : Int} (A : isO nN a 4) : isA nN (a + 46) 0 12 := by
  rcases io_of_4 A with rfl | rfl <;> exact ⟨by decide, by decide, by decide +kernel, by decide⟩
theorem io_197 : isO nN 197 7 := ⟨by decide, by decide, by decide +kernel⟩
theorem io_of_7 {a : Int} (A : isO nN a 7) : a = 197 := by
  have h1 : ∀ n, n < nN → sh_ n = (7 + 6, uN_ 7) → n = 197 := by decide +kernel
  have h2 := h1 a.toNat A.2.1 A.2.2
  have h3 := A.1
  omega
