/-! the start: the first picture, with the law's text where the class keeps no report -/
def z0_ : PH := fun a b => if a = 52 then -1 else if a = 1 ∧ b = 59 then 5 else 0
theorem z0_at {a b : Int} (h : a ≠ 52) (h2 : ¬ (a = 1 ∧ b = 59)) : z0_ a b = 0 := by
  unfold z0_
  rw [if_neg h, if_neg h2]
theorem z0_x {a : Int} (b : Int) (h : a ≠ 52) (h2 : a ≠ 1) : z0_ a b = 0 := z0_at h (fun q => h2 q.1)
theorem hF_at {a : Int} {l : List (Int × Int)} (h : (hT_.lookup a).getD [] = l) (y : Int) : hF a y = lk_ l a y := by
  unfold hF
  rw [h]
theorem df_3 {a y : Int} (hs : (sh_ a.toNat).1 ≤ 3) : df_ a y = 0 := by
  unfold df_
  rw [if_pos hs]
theorem hF_0 {a : Int} (y : Int) (h : (hT_.lookup a).getD [] = []) (hs : (sh_ a.toNat).1 ≤ 3) : hF a y = 0 := by
  rw [hF_at h, lk_nil, df_3 hs]
theorem hF_59 {a : Int} (y : Int) (h : (hT_.lookup a).getD [] = [(59, 5)]) (hs : (sh_ a.toNat).1 ≤ 3) : hF a y = if y = 59 then 5 else 0 := by
  rw [hF_at h, lk_put, lk_nil, df_3 hs]
theorem lookup_mem {β : Type} : ∀ {l : List (Int × β)} {y : Int} {v : β}, l.lookup y = some v → ∃ p ∈ l, p.2 = v
  | [], _, _, h => by cases h
  | (k, w) :: l, y, v, h => by
    rw [List.lookup_cons] at h
    cases e : y == k with
    | true =>
      rw [e] at h
      exact ⟨(k, w), List.mem_cons_self, Option.some.inj h⟩
    | false =>
      rw [e] at h
      obtain ⟨p, hp, hv⟩ := lookup_mem h
      exact ⟨p, List.mem_cons_of_mem _ hp, hv⟩
theorem df_in (x y : Int) : inI (df_ x y) := by
  unfold df_
  repeat' split
  all_goals exact ⟨by decide, by decide⟩
theorem hT_in : ∀ q ∈ hT_, ∀ p ∈ q.2, -2147483648 ≤ p.2 ∧ p.2 < 2147483648 := by decide +kernel
theorem hF_in (x y : Int) : inI (hF x y) := by
  unfold hF lk_
  cases e : ((hT_.lookup x).getD []).lookup y with
  | none => exact df_in x y
  | some v =>
    cases e2 : hT_.lookup x with
    | none =>
      rw [e2] at e
      cases e
    | some l =>
      rw [e2] at e
      obtain ⟨q, hq, rfl⟩ := lookup_mem e2
      obtain ⟨p, hp, rfl⟩ := lookup_mem e
      exact hT_in q hq p hp
theorem gF_ : G hF := ⟨show ∀ q ∈ rfL_, hF q.1 q.2.1 = q.2.2 by decide +kernel, hF_in⟩
theorem zi_0 : ZI z0_ := by
  have e : ∀ b : Int, b ≠ 59 → z0_ 1 b = 0 := fun b h => z0_at (by decide) (fun q => h q.2)
  have x : ∀ b : Int, z0_ 0 b = 0 := fun b => z0_x b (by decide) (by decide)
  refine ⟨⟨fun t a b => ?_, fun p a b => ?_, ?_, ?_, ?_, ?_, ?_⟩, ⟨?_, ?_, ?_, fun p a b => ?_, fun g a b => ?_⟩⟩
  · rw [e t (by omega), e (8 + t) (by omega), e (16 + t) (by omega), e (24 + t) (by omega)]
    decide
  · rw [e (32 + p) (by omega), e (44 + p) (by omega)]
    decide
  · decide
  · decide
  · decide
  · decide
  · decide
  · decide
  · decide
  · decide
  · rw [x] at b; omega
  · rw [x] at b; omega
def zT (u : UT) : PH := fun a => if a = 54 then fun _ => u.1 else if a = 55 then u.2 else z0_ a
theorem zT_ne {u : UT} {a : Int} (h1 : a ≠ 54) (h2 : a ≠ 55) : zT u a = z0_ a := by
  unfold zT
  rw [if_neg h1, if_neg h2]
theorem zT_54 {u : UT} : zT u 54 = fun _ => u.1 := if_pos rfl
theorem zT_55 {u : UT} : zT u 55 = u.2 := by
  unfold zT
  rw [if_neg (by decide), if_pos rfl]
theorem cr_T {h : PH} {u : UT} (hG : G h) (e : ∀ x : Int, x < 197 → h x = hF x) (u0 : 0 ≤ u.1) (u1 : u.1 ≤ 330) (o : OL_ u) (c0 : h 198 0 = u.1) (c1 : ∀ k : Int, 0 ≤ k → k < u.1 → h 198 (10 + k) = u.2 k) (c2 : 16 ≤ h 198 (-1)) (c3 : h 198 (-1) ≤ 962) (c4 : u.1 ≤ h 198 (-1)) (c5 : h 198 1 = 0 ∨ h 198 1 = 1) : CR_ h (zT u) := by
  have n : ∀ a : Int, a < 54 → zT u a = z0_ a := fun a q => zT_ne (by omega) (by omega)
  have x : ∀ b : Int, zT u 0 b = 0 := fun b => by rw [n 0 (by decide)]; exact z0_x b (by decide) (by decide)
  have e0 : h 0 = hF 0 := e 0 (by decide)
  have w : h 0 3 = 42 := by rw [e0]; decide +kernel
  have zi : ZI (zT u) := zi_e (z := z0_) ⟨n 0 (by decide), n 1 (by decide), n 2 (by decide), n 3 (by decide), n 5 (by decide), n 6 (by decide), n 7 (by decide), n 8 (by decide), n 9 (by decide)⟩ zi_0
  have zb : ZB (zT u) := by
    unfold ZB
    rw [n 50 (by decide), n 51 (by decide), n 52 (by decide), n 53 (by decide), zT_54, zT_55]
    refine ⟨by decide, fun k a b => by rw [z0_x k (by decide) (by decide)]; decide, by decide, fun t a b => ?_, fun p a b => ?_, by decide, fun j a b => ?_, ⟨u0, by show u.1 ≤ 480; omega⟩, o⟩
    · rw [x] at b; omega
    · rw [x] at b; omega
    · rw [z0_x 0 (by decide) (by decide)] at b; omega
  refine ⟨hG, zi, zb, Or.inr ⟨w, by rw [e 2 (by decide)]; decide +kernel⟩, ?_, ?_, ?_, ?_, ?_, ?_, ?_⟩
  · rw [w]
    refine ⟨?_, fun k a b => ?_, fun p a b => ?_, fun g a b => ?_⟩
    · rw [n 0 (by decide)]
      show h 43 1 = z0_ 0 0 ∧ h 56 1 = z0_ 0 1 ∧ h 42 7 = z0_ 0 2
      rw [e 43 (by decide), e 56 (by decide), e 42 (by decide)]
      exact ⟨by decide +kernel, by decide +kernel, by decide +kernel⟩
    · show h 80 k = zT u 1 k
      rw [e 80 (by decide), n 1 (by decide), hF_59 k (by decide +kernel) (by decide +kernel)]
      by_cases q : k = 59
      · subst q; decide
      · rw [if_neg q, z0_at (by decide) (fun z => q z.2)]
    · rw [x] at b; omega
    · rw [x] at b; omega
  · rw [w]
    refine ⟨fun t a b => ?_, fun t a b => ?_⟩
    · rw [x] at b; omega
    · rw [x] at b; omega
  · rw [e0, e 1 (by decide), n 50 (by decide), n 51 (by decide)]
    refine ⟨by decide +kernel, fun k a b => ?_⟩
    rw [hF_0 k (by decide +kernel) (by decide +kernel), z0_x k (by decide) (by decide)]
  · rw [e 2 (by decide), n 52 (by decide)]
    decide +kernel
  · unfold CA_
    rw [e 81 (by decide), n 53 (by decide)]
    refine ⟨by decide +kernel, ⟨by decide +kernel, by decide +kernel⟩, fun j k a b => ?_⟩
    rw [z0_x 0 (by decide) (by decide)] at b; omega
  · unfold CS_
    rw [zT_54, zT_55]
    exact ⟨c0, c1, c2, c3, c4, c5⟩
  · unfold CD_
    rw [e0]
    exact ⟨Or.inr (by decide +kernel), fun q => absurd q (by decide +kernel)⟩
/-- the row of five numbers is none of the picture's -/
theorem cr_201 {h h' z : PH} (C : CR_ h z) (hG : G h') (e : ∀ x : Int, x ≠ 201 → h' x = h x) : CR_ h' z := by
  obtain ⟨-, c1, c2, c3, c4, c5, c6, c7, c8, c9, c10⟩ := C
  have e0 : h' 0 = h 0 := e 0 (by decide)
  refine ⟨hG, c1, c2, ?_, ?_, ?_, ?_, ?_, ?_, ?_, ?_⟩
  · rw [e0, e 2 (by decide)]
    exact c3
  · rw [e0]
    exact PR_to c4 (fun x y a b => by rw [e x (by rcases c3 with q | q <;> omega)]) (fun y => by rw [e _ (by decide)])
  · rw [e0]
    refine ⟨fun t a b => ?_, fun t a b => ?_⟩
    · have q := c5.1 t a b
      have hT := c1.2.1
      rw [e _ (by rcases c3 with q | q <;> omega), e _ (by rcases c3 with q | q <;> omega)]
      exact q
    · have q := c5.2 t a b
      have hT := c1.2.2.1
      rw [e _ (by rcases c3 with q | q <;> omega), e _ (by rcases c3 with q | q <;> omega)]
      exact q
  · rw [e0, e 1 (by decide)]
    exact c6
  · rw [e 2 (by decide)]
    exact c7
  · obtain ⟨a1, a2, a3⟩ := c8
    unfold CA_
    rw [e 81 (by decide)]
    refine ⟨a1, a2, fun j k j0 j1 k0 k1 => ?_⟩
    rw [e _ (by omega)]
    exact a3 j k j0 j1 k0 k1
  · unfold CS_
    rw [e 198 (by decide)]
    exact c9
  · unfold CD_
    rw [e0, e (0 + 99) (by decide)]
    exact ⟨c10.1, fun s => ⟨(c10.2 s).1, RD_to (c10.2 s).2 c1 (fun x y a b => by rw [e x (by omega)])⟩⟩
/-! the tape -/
def TP_ (z : PH) (k : Int) (F : Int → Int) : Prop := z 50 0 = k ∧ (∀ i : Int, 0 ≤ i → i < k → z 51 i = F i) ∧ z 53 0 = 0
theorem zbyte_tp {z : PH} {k v : Int} {F : Int → Int} (T : TP_ z k F) (e : Int.bmod v 256 = F k) : TP_ (zbyte z v) (k + 1) F := by
  refine ⟨by rw [zbyte_50, T.1], fun i i0 i1 => ?_, by rw [zbyte_ne (by decide) (by decide)]; exact T.2.2⟩
  rw [zbyte_51]
  unfold fu_
  rw [T.1]
  by_cases c : i = k
  · rw [if_pos c, e, c]
  · rw [if_neg c]
    exact T.2.1 i i0 (by omega)
theorem bm2 {x b a : Int} (h : x = a * 256 + b) (b0 : 0 ≤ b) (b1 : b < 128) : Int.bmod x 256 = b := by
  simp only [Int.bmod]
  split <;> omega
theorem zfour_tp {z : PH} {k v : Int} {F : Int → Int} (T : TP_ z k F) (hF : ∀ x : Int, 0 ≤ F x ∧ F x < 128) (e : v = F k * 16777216 + F (k + 1) * 65536 + F (k + 2) * 256 + F (k + 3)) : TP_ (zfour z v) (k + 4) F := by
  have a0 := hF k
  have a1 := hF (k + 1)
  have a2 := hF (k + 2)
  have a3 := hF (k + 3)
  have t1 := zbyte_tp (v := v / 16777216) T (bm2 (a := 0) (by omega) a0.1 a0.2)
  have t2 := zbyte_tp (v := v / 65536) t1 (bm2 (a := F k) (by omega) a1.1 a1.2)
  have t3 := zbyte_tp (v := v / 256) t2 (bm2 (a := F k * 256 + F (k + 1)) (by rw [show k + 1 + 1 = k + 2 by omega]; omega) (by rw [show k + 1 + 1 = k + 2 by omega]; exact a2.1) (by rw [show k + 1 + 1 = k + 2 by omega]; exact a2.2))
  have t4 := zbyte_tp (v := v / 1) t3 (bm2 (a := F k * 65536 + F (k + 1) * 256 + F (k + 2)) (by rw [show k + 1 + 1 + 1 = k + 3 by omega]; omega) (by rw [show k + 1 + 1 + 1 = k + 3 by omega]; exact a3.1) (by rw [show k + 1 + 1 + 1 = k + 3 by omega]; exact a3.2))
  rw [show k + 1 + 1 + 1 + 1 = k + 4 by omega] at t4
  exact t4
def bt_ (f : Int → Int) (m x : Int) : Int := if x < m then f x else 0
/-- word j, so far as m letters fill it -/
def wv_ (f : Int → Int) (m j : Int) : Int := bt_ f m (4 * j) * 16777216 + bt_ f m (4 * j + 1) * 65536 + bt_ f m (4 * j + 2) * 256 + bt_ f m (4 * j + 3)
theorem bt_lt {f : Int → Int} {m x : Int} (h : x < m) : bt_ f m x = f x := if_pos h
theorem bt_ge {f : Int → Int} {m x : Int} (h : m ≤ x) : bt_ f m x = 0 := if_neg (by omega)
theorem bt_ne {f : Int → Int} {m x : Int} (h : x ≠ m) : bt_ f (m + 1) x = bt_ f m x := by
  by_cases c : x < m
  · rw [bt_lt c, bt_lt (by omega)]
  · rw [bt_ge (by omega), bt_ge (by omega)]
theorem wv_ne {f : Int → Int} {i j : Int} (h : j ≠ i / 4) : wv_ f (i + 1) j = wv_ f i j := by
  unfold wv_
  rw [bt_ne (by omega), bt_ne (by omega), bt_ne (by omega), bt_ne (by omega)]
theorem pk_step {f : Int → Int} {i : Int} (hf : ∀ x : Int, 0 ≤ f x ∧ f x < 128) (i0 : 0 ≤ i) : ∃ (n a : Nat), n ≤ 31 ∧ wv_ f i (i / 4) = ((a * 2 ^ n : Nat) : Int) ∧ wv_ f i (i / 4) < 2147483648 ∧ 0 ≤ f i * 2 ^ (24 - 8 * (i % 4)).toNat ∧ (f i * 2 ^ (24 - 8 * (i % 4)).toNat).toNat < 2 ^ n ∧ wv_ f i (i / 4) + f i * 2 ^ (24 - 8 * (i % 4)).toNat = wv_ f (i + 1) (i / 4) := by
  have h1 : i = 4 * (i / 4) + i % 4 := by omega
  have h2 : 0 ≤ i % 4 ∧ i % 4 < 4 := by omega
  have j0 : 0 ≤ i / 4 := by omega
  generalize i / 4 = j at h1 j0 ⊢
  generalize i % 4 = r at h1 h2 ⊢
  subst h1
  have a0 := hf (4 * j)
  have a1 := hf (4 * j + 1)
  have a2 := hf (4 * j + 2)
  have a3 := hf (4 * j + 3)
  rcases (by omega : r = 0 ∨ r = 1 ∨ r = 2 ∨ r = 3) with e | e | e | e <;> subst e
  · refine ⟨31, 0, by decide, ?_, ?_, ?_, ?_, ?_⟩
    · unfold wv_
      rw [bt_ge (by omega), bt_ge (by omega), bt_ge (by omega), bt_ge (by omega)]
      simp
    · unfold wv_
      rw [bt_ge (by omega), bt_ge (by omega), bt_ge (by omega), bt_ge (by omega)]
      decide
    · rw [Int.add_zero]
      show 0 ≤ f (4 * j) * 16777216
      omega
    · rw [Int.add_zero]
      show (f (4 * j) * 16777216).toNat < 2147483648
      omega
    · unfold wv_
      rw [bt_ge (by omega), bt_ge (by omega), bt_ge (by omega), bt_ge (by omega), bt_lt (by omega), bt_ge (by omega), bt_ge (by omega), bt_ge (by omega), show f (4 * j + 0) = f (4 * j) by rw [Int.add_zero]]
      show 0 * 16777216 + 0 * 65536 + 0 * 256 + 0 + f (4 * j) * 16777216 = _
      omega
  · refine ⟨24, (f (4 * j)).toNat, by decide, ?_, ?_, ?_, ?_, ?_⟩
    · unfold wv_
      rw [bt_lt (by omega), bt_ge (by omega), bt_ge (by omega), bt_ge (by omega)]
      show _ = (((f (4 * j)).toNat * 16777216 : Nat) : Int)
      omega
    · unfold wv_
      rw [bt_lt (by omega), bt_ge (by omega), bt_ge (by omega), bt_ge (by omega)]
      omega
    · show 0 ≤ f (4 * j + 1) * 65536
      omega
    · show (f (4 * j + 1) * 65536).toNat < 16777216
      omega
    · unfold wv_
      rw [bt_lt (by omega), bt_ge (by omega), bt_ge (by omega), bt_ge (by omega), bt_lt (by omega), bt_lt (by omega), bt_ge (by omega), bt_ge (by omega)]
      show f (4 * j) * 16777216 + 0 * 65536 + 0 * 256 + 0 + f (4 * j + 1) * 65536 = _
      omega
  · refine ⟨16, (f (4 * j)).toNat * 256 + (f (4 * j + 1)).toNat, by decide, ?_, ?_, ?_, ?_, ?_⟩
    · unfold wv_
      rw [bt_lt (by omega), bt_lt (by omega), bt_ge (by omega), bt_ge (by omega)]
      show _ = ((((f (4 * j)).toNat * 256 + (f (4 * j + 1)).toNat) * 65536 : Nat) : Int)
      omega
    · unfold wv_
      rw [bt_lt (by omega), bt_lt (by omega), bt_ge (by omega), bt_ge (by omega)]
      omega
    · show 0 ≤ f (4 * j + 2) * 256
      omega
    · show (f (4 * j + 2) * 256).toNat < 65536
      omega
    · unfold wv_
      rw [bt_lt (by omega), bt_lt (by omega), bt_ge (by omega), bt_ge (by omega), bt_lt (by omega), bt_lt (by omega), bt_lt (by omega), bt_ge (by omega)]
      show f (4 * j) * 16777216 + f (4 * j + 1) * 65536 + 0 * 256 + 0 + f (4 * j + 2) * 256 = _
      omega
  · refine ⟨8, (f (4 * j)).toNat * 65536 + (f (4 * j + 1)).toNat * 256 + (f (4 * j + 2)).toNat, by decide, ?_, ?_, ?_, ?_, ?_⟩
    · unfold wv_
      rw [bt_lt (by omega), bt_lt (by omega), bt_lt (by omega), bt_ge (by omega)]
      show _ = ((((f (4 * j)).toNat * 65536 + (f (4 * j + 1)).toNat * 256 + (f (4 * j + 2)).toNat) * 256 : Nat) : Int)
      omega
    · unfold wv_
      rw [bt_lt (by omega), bt_lt (by omega), bt_lt (by omega), bt_ge (by omega)]
      omega
    · show 0 ≤ f (4 * j + 3) * 1
      omega
    · show (f (4 * j + 3) * 1).toNat < 256
      omega
    · unfold wv_
      rw [bt_lt (by omega), bt_lt (by omega), bt_lt (by omega), bt_ge (by omega), bt_lt (by omega), bt_lt (by omega), bt_lt (by omega), bt_lt (by omega)]
      show f (4 * j) * 16777216 + f (4 * j + 1) * 65536 + f (4 * j + 2) * 256 + 0 + f (4 * j + 3) * 1 = _
      omega
/-- five words put twenty letters behind the tape -/
theorem zfeed_tp {z : PH} {k : Int} {F : Int → Int} {a b c d e : Int} (T : TP_ z k F) (hF : ∀ x : Int, 0 ≤ F x ∧ F x < 128) (h0 : a = wv_ (fun x => F (k + x)) 20 0) (h1 : b = wv_ (fun x => F (k + x)) 20 1) (h2 : c = wv_ (fun x => F (k + x)) 20 2) (h3 : d = wv_ (fun x => F (k + x)) 20 3) (h4 : e = wv_ (fun x => F (k + x)) 20 4) : TP_ (zfeed z a b c d e) (k + 20) F := by
  have q : ∀ j : Int, 0 ≤ j → j < 5 → wv_ (fun x => F (k + x)) 20 j = F (k + 4 * j) * 16777216 + F (k + 4 * j + 1) * 65536 + F (k + 4 * j + 2) * 256 + F (k + 4 * j + 3) := fun j j0 j1 => by
    unfold wv_
    rw [bt_lt (by omega), bt_lt (by omega), bt_lt (by omega), bt_lt (by omega)]
    show F (k + 4 * j) * 16777216 + F (k + (4 * j + 1)) * 65536 + F (k + (4 * j + 2)) * 256 + F (k + (4 * j + 3)) = _
    rw [← Int.add_assoc, ← Int.add_assoc, ← Int.add_assoc]
  rw [q 0 (by omega) (by omega), show k + 4 * 0 = k by omega] at h0
  rw [q 1 (by omega) (by omega), show k + 4 * 1 = k + 4 by omega] at h1
  rw [q 2 (by omega) (by omega), show k + 4 * 2 = k + 4 + 4 by omega] at h2
  rw [q 3 (by omega) (by omega), show k + 4 * 3 = k + 4 + 4 + 4 by omega] at h3
  rw [q 4 (by omega) (by omega), show k + 4 * 4 = k + 4 + 4 + 4 + 4 by omega] at h4
  have t := zfour_tp (zfour_tp (zfour_tp (zfour_tp (zfour_tp T hF h0) hF h1) hF h2) hF h3) hF h4
  rw [show k + 4 + 4 + 4 + 4 + 4 = k + 20 by omega] at t
  exact t
