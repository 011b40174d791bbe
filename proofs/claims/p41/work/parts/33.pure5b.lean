theorem br_congr {h h0 : PH} {c t : Int} (e : ∀ y : Int, h c y = h0 c y) : br_ h c t = br_ h0 c t := by
  unfold br_
  rw [e, e, e]
theorem sumI_up (f : Int → Int) {i : Int} (h : 0 ≤ i) : sumI f 0 (i + 1).toNat = sumI f 0 i.toNat + f i := by
  rw [show (i + 1).toNat = i.toNat + 1 by omega, sumI_snoc]
  rw [show (0 : Int) + (i.toNat : Int) = i by omega]
/-- a gift's claim is laid -/
noncomputable def clm_ (h : PH) (r w f g : Int) : PH :=
  if h (w + 32) g = 0 then
    if h (f + 1) 60 = 1 then hs_ (hs_ h (r + 4 + 1 + g) 0 (br_ h (f + 1) (h (w + 34) g))) (r + 4 + 1 + g) 4 (max 0 (h (f + 1) (h (w + 34) g) - br_ h (f + 1) (h (w + 34) g)))
    else hs_ h (r + 4 + 1 + g) 0 (br_ h (f + 1) (h (w + 34) g))
  else if h (w + 32) g = 1 then hs_ h (r + 4 + 1 + g) (h (w + 36) g) (h (w + 35) g)
  else if h (w + 32) g = 2 then hs_ (hs_ (hs_ h (r + 3) (h (w + 34) g) (h (r + 3) (h (w + 34) g) - min (h (w + 35) g) (h (r + 3) (h (w + 34) g)))) (r + 4 + 1 + g) 0 (min (h (w + 35) g) (h (r + 3) (h (w + 34) g)))) (r + 4 + 1 + g) (h (w + 36) g) (h (w + 35) g - min (h (w + 35) g) (h (r + 3) (h (w + 34) g)))
  else h
