/-! A TEXT PUT TOGETHER out of pieces: how long, its letters -/
abbrev UT : Type := Int × (Int → Int)
/-- .. and a letter, a text f of n letters -/
def tc_ (u : UT) (c : Int) : UT := (u.1 + 1, fun k => if k = u.1 then c else u.2 k)
def tt_ (u : UT) (f : Nat → Int) (n : Int) : UT := (u.1 + n, fun k => if u.1 ≤ k ∧ k < u.1 + n then f (k - u.1).toNat else u.2 k)
/-- how many digits a number has -/
def nd_ (v : Int) : Int := if v < 10 then 1 else if v < 100 then 2 else if v < 1000 then 3 else if v < 10000 then 4 else if v < 100000 then 5 else if v < 1000000 then 6 else if v < 10000000 then 7 else if v < 100000000 then 8 else if v < 1000000000 then 9 else 10
/-- the j-th digit from the right -/
def dt_ (v j : Int) : Int := v / 10 ^ j.toNat % 10
/-- .. and a number -/
def tn_ (u : UT) (v : Int) : UT := (u.1 + nd_ v, fun k => if u.1 ≤ k ∧ k < u.1 + nd_ v then 48 + dt_ v (nd_ v - 1 - (k - u.1)) else u.2 k)
/-- .. and the constant text j -/
def tx_ (u : UT) (j : Nat) : UT := tt_ u (fun i => (txb_ j).getD i 0) (txb_ j).length
/-- the text T of n letters begins with u -/
def EX_ (T : Int → Int) (n : Int) (u : UT) : Prop := (0 ≤ u.1 ∧ u.1 ≤ n) ∧ ∀ k : Int, 0 ≤ k → k < u.1 → T k = u.2 k
/-- the constant text j stands at a -/
def P_T (T : Int → Int) (a : Int) (j : Nat) : Prop := ∀ k : Nat, k < (txb_ j).length → T (a + k) = (txb_ j).getD k 0
def P_N (T : Int → Int) (a v : Int) : Prop := ∀ k : Int, 0 ≤ k → k < nd_ v → T (a + k) = 48 + dt_ v (nd_ v - 1 - k)
theorem ex_x {T : Int → Int} {n : Int} {u : UT} {j : Nat} (u0 : 0 ≤ u.1) (E : EX_ T n (tx_ u j)) : EX_ T n u ∧ P_T T u.1 j := by
  have h1 : u.1 + ((txb_ j).length : Int) ≤ n := E.1.2
  refine ⟨⟨⟨u0, by omega⟩, fun k k0 k1 => ?_⟩, fun k hk => ?_⟩
  · rw [E.2 k k0 (by show k < u.1 + ((txb_ j).length : Int); omega)]
    show (if u.1 ≤ k ∧ k < u.1 + ((txb_ j).length : Int) then (txb_ j).getD (k - u.1).toNat 0 else u.2 k) = _
    rw [if_neg (by omega)]
  · rw [E.2 (u.1 + k) (by omega) (by show u.1 + (k : Int) < u.1 + ((txb_ j).length : Int); omega)]
    show (if u.1 ≤ u.1 + (k : Int) ∧ u.1 + (k : Int) < u.1 + ((txb_ j).length : Int) then (txb_ j).getD (u.1 + (k : Int) - u.1).toNat 0 else u.2 (u.1 + k)) = _
    rw [if_pos ⟨by omega, by omega⟩, show (u.1 + (k : Int) - u.1).toNat = k by omega]
theorem ex_c {T : Int → Int} {n : Int} {u : UT} {c : Int} (u0 : 0 ≤ u.1) (E : EX_ T n (tc_ u c)) : EX_ T n u ∧ T u.1 = c := by
  have h1 : u.1 + 1 ≤ n := E.1.2
  refine ⟨⟨⟨u0, by omega⟩, fun k k0 k1 => ?_⟩, ?_⟩
  · rw [E.2 k k0 (by show k < u.1 + 1; omega)]
    show (if k = u.1 then c else u.2 k) = _
    rw [if_neg (by omega)]
  · rw [E.2 u.1 u0 (by show u.1 < u.1 + 1; omega)]
    exact if_pos rfl
theorem nd_bd' (v : Int) : 1 ≤ nd_ v ∧ nd_ v ≤ 10 := by
  unfold nd_
  repeat' split
  all_goals omega
theorem ex_n {T : Int → Int} {n : Int} {u : UT} {v : Int} (u0 : 0 ≤ u.1) (E : EX_ T n (tn_ u v)) : EX_ T n u ∧ P_N T u.1 v := by
  have h1 : u.1 + nd_ v ≤ n := E.1.2
  have h2 := nd_bd' v
  refine ⟨⟨⟨u0, by omega⟩, fun k k0 k1 => ?_⟩, fun k k0 k1 => ?_⟩
  · rw [E.2 k k0 (by show k < u.1 + nd_ v; omega)]
    show (if u.1 ≤ k ∧ k < u.1 + nd_ v then 48 + dt_ v (nd_ v - 1 - (k - u.1)) else u.2 k) = _
    rw [if_neg (by omega)]
  · rw [E.2 (u.1 + k) (by omega) (by show u.1 + k < u.1 + nd_ v; omega)]
    show (if u.1 ≤ u.1 + k ∧ u.1 + k < u.1 + nd_ v then 48 + dt_ v (nd_ v - 1 - (u.1 + k - u.1)) else u.2 (u.1 + k)) = _
    rw [if_pos ⟨by omega, by omega⟩, show u.1 + k - u.1 = k by omega]
/-! what stands at a -/
/-- no blank at a -/
def NB_ (T : Int → Int) (n a : Int) : Prop := ¬ (a < n ∧ (T a = 32 ∨ T a = 10 ∨ T a = 9))
theorem nb_0 {T : Int → Int} {n a : Int} (h : NB_ T n a) : nb_ T n a = a := ru_st h
theorem nb_1 {T : Int → Int} {n a : Int} (h : a < n) (e : T a = 32) (h2 : NB_ T n (a + 1)) : nb_ T n a = a + 1 := by
  have q := ru_up (P := fun i => T i = 32 ∨ T i = 10 ∨ T i = 9) h (Or.inl e)
  have q2 : nb_ T n a = nb_ T n (a + 1) := q
  rw [q2, nb_0 h2]
theorem ru_to {P : Int → Prop} {n : Int} : ∀ (l : Nat) (a : Int), a + l ≤ n → (∀ k : Nat, k < l → P (a + k)) → ¬ (a + l < n ∧ P (a + l)) → ru_ P (n - a).toNat a = a + l
  | 0, a, _, _, h => by
    have h' : ¬ (a < n ∧ P a) := by simpa using h
    rw [ru_st h']
    simp
  | l + 1, a, h0, h1, h2 => by
    have p0 : P a := by simpa using h1 0 (by omega)
    rw [ru_up (by omega) p0, ru_to l (a + 1) (by omega) (fun k hk => by
      have := h1 (k + 1) (by omega)
      rwa [show a + ((k + 1 : Nat) : Int) = a + 1 + (k : Int) by omega] at this) (by
      rwa [show a + 1 + (l : Int) = a + ((l + 1 : Nat) : Int) by omega])]
    omega
/-- no letter, no digit at a -/
def NL_ (T : Int → Int) (n a : Int) : Prop := ¬ (a < n ∧ (97 ≤ T a ∧ T a ≤ 122))
def ND_ (T : Int → Int) (n a : Int) : Prop := ¬ (a < n ∧ (48 ≤ T a ∧ T a ≤ 57))
theorem we_to {T : Int → Int} {n a : Int} (l : Nat) (h0 : a + l ≤ n) (h1 : ∀ k : Nat, k < l → 97 ≤ T (a + k) ∧ T (a + k) ≤ 122) (h2 : NL_ T n (a + l)) : we_ T n a = a + l := ru_to (P := fun i => 97 ≤ T i ∧ T i ≤ 122) l a h0 h1 h2
theorem de_to {T : Int → Int} {n a : Int} (l : Nat) (h0 : a + l ≤ n) (h1 : ∀ k : Nat, k < l → 48 ≤ T (a + k) ∧ T (a + k) ≤ 57) (h2 : ND_ T n (a + l)) : de_ T n a = a + l := ru_to (P := fun i => 48 ≤ T i ∧ T i ≤ 57) l a h0 h1 h2
/-- a word of l letters begins at s, behind at most a blank at a -/
theorem wn_to {T : Int → Int} {n a s : Int} (hs : nb_ T n a = s) (l : Nat) (h0 : s + l ≤ n) (h1 : ∀ k : Nat, k < l → 97 ≤ T (s + k) ∧ T (s + k) ≤ 122) (h2 : NL_ T n (s + l)) : wn_ T n a = s + l ∧ wl__ T n a = l := by
  have e : wn_ T n a = s + l := by
    unfold wn_
    rw [hs]
    exact we_to l h0 h1 h2
  refine ⟨e, ?_⟩
  unfold wl__
  rw [e, hs]
  omega
/-- word j of the lines stands there -/
theorem ok_w {T : Int → Int} {n a s : Int} {j : Nat} (hs : nb_ T n a = s) (hj : j < 23) (h0 : s + ((txb_ j).length : Int) ≤ n) (h1 : P_T T s j) (h2 : NL_ T n (s + ((txb_ j).length : Int))) : wn_ T n a = s + ((txb_ j).length : Int) ∧ wl__ T n a = ((txb_ j).length : Int) ∧ okW T n a j ∧ wi_ T (nb_ T n a) (wl__ T n a) = j := by
  have hw : ∀ i : Nat, i < 23 → ∀ k : Nat, k < (txb_ i).length → 97 ≤ (txb_ i).getD k 0 ∧ (txb_ i).getD k 0 ≤ 122 := by decide +kernel
  have q := wn_to hs (txb_ j).length h0 (fun k hk => by
    rw [h1 k hk]
    exact hw j hj k hk) h2
  have iw : iw_ T s ((txb_ j).length : Int) j := ⟨rfl, fun k k0 k1 => by
    have := h1 k.toNat (by omega)
    rwa [show ((k.toNat : Nat) : Int) = k by omega] at this⟩
  refine ⟨q.1, q.2, ?_, ?_⟩
  · unfold okW
    rw [hs, q.2]
    exact iw
  · rw [hs, q.2]
    exact (wi_iff hj).mpr iw
/-- a name of one letter stands there -/
theorem ok_u {T : Int → Int} {n a s : Int} (hs : nb_ T n a = s) (h0 : s + 1 ≤ n) (h1 : 97 ≤ T s ∧ T s ≤ 122) (h2 : NL_ T n (s + 1)) : wn_ T n a = s + 1 ∧ wl__ T n a = 1 ∧ okU T n a := by
  have q := wn_to hs 1 h0 (fun k hk => by
    rw [show k = 0 by omega]
    simpa using h1) h2
  have q1 : wn_ T n a = s + 1 := q.1
  have q2 : wl__ T n a = 1 := q.2
  refine ⟨q1, q2, ?_⟩
  unfold okU
  rw [q2, hs]
  refine ⟨by decide, by decide, ?_⟩
  have h3 : wi_ T s 1 ≤ 23 := wi_le
  by_cases c : wi_ T s 1 < 23
  · have iw : iw_ T s 1 (wi_ T s 1) := wx_no (P := iw_ T s 1) 24 0 (by omega) c
    have hl : ∀ i : Nat, i < 23 → 2 ≤ (txb_ i).length := by decide +kernel
    have h4 := hl _ c
    have h5 := iw.1
    omega
  · omega
/-- a number stands there -/
theorem dt_3 {v : Int} (v0 : 0 ≤ v) (v1 : v < 1000) : dt_ v 0 = v % 10 ∧ dt_ v 1 = v / 10 % 10 ∧ dt_ v 2 = v / 100 % 10 := by
  unfold dt_
  refine ⟨?_, ?_, ?_⟩
  · rw [show (10 : Int) ^ (0 : Int).toNat = 1 by rfl, Int.ediv_one]
  · rw [show (10 : Int) ^ (1 : Int).toNat = 10 by rfl]
  · rw [show (10 : Int) ^ (2 : Int).toNat = 100 by rfl]
theorem ok_n {T : Int → Int} {n a s v lo hi : Int} (hs : nb_ T n a = s) (v0 : 0 ≤ v) (v1 : v < 1000) (h0 : s + nd_ v ≤ n) (h1 : P_N T s v) (h2 : ND_ T n (s + nd_ v)) (l0 : lo ≤ v) (l1 : v ≤ hi) : dn_ T n a = s + nd_ v ∧ dv_ T n a = v ∧ okN T n a lo hi := by
  have hd := dt_3 v0 v1
  have hk : nd_ v = 1 ∧ v < 10 ∨ nd_ v = 2 ∧ 10 ≤ v ∧ v < 100 ∨ nd_ v = 3 ∧ 100 ≤ v := by
    unfold nd_
    by_cases c1 : v < 10
    · rw [if_pos c1]; omega
    · by_cases c2 : v < 100
      · rw [if_neg c1, if_pos c2]; omega
      · rw [if_neg c1, if_neg c2, if_pos v1]; omega
  have q : (de_ T n s = s + nd_ v) ∧ vl_ T s (nd_ v).toNat s 0 = v := by
    rcases hk with ⟨e, b⟩ | ⟨e, b⟩ | ⟨e, b⟩
    · rw [e] at h0 h2 ⊢
      have t0 : T s = 48 + v % 10 := by
        have := h1 0 (by omega) (by omega)
        rw [e, show s + 0 = s by omega, show (1 : Int) - 1 - 0 = 0 by omega, hd.1] at this
        exact this
      refine ⟨de_to 1 h0 (fun k hk => ?_) h2, ?_⟩
      · rw [show k = 0 by omega, show s + ((0 : Nat) : Int) = s by omega, t0]
        omega
      · show vl_ T s 1 s 0 = v
        rw [vl_, vl_, if_pos (by omega), t0]
        omega
    · rw [e] at h0 h2 ⊢
      have t0 : T s = 48 + v / 10 % 10 := by
        have := h1 0 (by omega) (by omega)
        rw [e, show s + 0 = s by omega, show (2 : Int) - 1 - 0 = 1 by omega, hd.2.1] at this
        exact this
      have t1 : T (s + 1) = 48 + v % 10 := by
        have := h1 1 (by omega) (by omega)
        rw [e, show (2 : Int) - 1 - 1 = 0 by omega, hd.1] at this
        exact this
      refine ⟨de_to 2 h0 (fun k hk => ?_) h2, ?_⟩
      · rcases (by omega : k = 0 ∨ k = 1) with r | r <;> subst r
        · rw [show s + ((0 : Nat) : Int) = s by omega, t0]
          omega
        · rw [show s + ((1 : Nat) : Int) = s + 1 by omega, t1]
          omega
      · show vl_ T s 2 s 0 = v
        rw [vl_, vl_, vl_, if_pos (by omega), if_pos (by omega), t0, t1]
        omega
    · rw [e] at h0 h2 ⊢
      have t0 : T s = 48 + v / 100 % 10 := by
        have := h1 0 (by omega) (by omega)
        rw [e, show s + 0 = s by omega, show (3 : Int) - 1 - 0 = 2 by omega, hd.2.2] at this
        exact this
      have t1 : T (s + 1) = 48 + v / 10 % 10 := by
        have := h1 1 (by omega) (by omega)
        rw [e, show (3 : Int) - 1 - 1 = 1 by omega, hd.2.1] at this
        exact this
      have t2 : T (s + 1 + 1) = 48 + v % 10 := by
        have := h1 2 (by omega) (by omega)
        rw [e, show s + 2 = s + 1 + 1 by omega, show (3 : Int) - 1 - 2 = 0 by omega, hd.1] at this
        exact this
      refine ⟨de_to 3 h0 (fun k hk => ?_) h2, ?_⟩
      · rcases (by omega : k = 0 ∨ k = 1 ∨ k = 2) with r | r | r <;> subst r
        · rw [show s + ((0 : Nat) : Int) = s by omega, t0]
          omega
        · rw [show s + ((1 : Nat) : Int) = s + 1 by omega, t1]
          omega
        · rw [show s + ((2 : Nat) : Int) = s + 1 + 1 by omega, t2]
          omega
      · show vl_ T s 3 s 0 = v
        rw [vl_, vl_, vl_, vl_, if_pos (by omega), if_pos (by omega), if_pos (by omega), t0, t1, t2]
        omega
  have e1 : dn_ T n a = s + nd_ v := by unfold dn_; rw [hs]; exact q.1
  have e2 : dv_ T n a = v := by
    unfold dv_ nv_
    rw [hs, q.1, show s + nd_ v - s = nd_ v by omega]
    exact q.2
  refine ⟨e1, e2, ?_⟩
  unfold okN
  rw [e1, e2, hs]
  have hb := nd_bd' v
  refine ⟨⟨by omega, ?_⟩, l0, l1⟩
  rcases hk with ⟨e, b⟩ | ⟨e, b⟩ | ⟨e, b⟩ <;> omega
/-- the end of a line stands there -/
theorem ok_e {T : Int → Int} {n b : Int} (h0 : b < n) (h1 : T b = 59) (h2 : NB_ T n (b + 1)) : nb_ T n b = b ∧ okE T n b ∧ nb_ T n (nb_ T n b + 1) = b + 1 := by
  have e : nb_ T n b = b := nb_0 (fun q => by have := q.2; omega)
  refine ⟨e, ?_, ?_⟩
  · unfold okE
    rw [e]
    exact ⟨h0, h1⟩
  · rw [e]
    exact nb_0 h2
/-! the house that is told: persons a b .., things t u .., gifts of the first K things alone -/
def YV_ (P t G K : Int) (y : PH) : Prop := y 0 1 = P ∧ y 0 0 = t ∧ (0 ≤ y 0 2 ∧ y 0 2 ≤ G) ∧ (∀ i : Int, 0 ≤ i → i < P → y 11 i = 1 ∧ y (30 + i) 0 = 97 + i) ∧ (∀ i : Int, 0 ≤ i → i < t → y 10 i = 1 ∧ y (20 + i) 0 = 116 + i) ∧ (∀ g : Int, 0 ≤ g → g < y 0 2 → y 7 g < K)
/-- .. which are held; the first person lives -/
def YH_ (y : PH) : Prop := (∀ i : Int, 0 ≤ i → i < 8 → y 1 (8 + i) = 0) ∧ y 1 32 = 0
theorem fp_new {P t G K : Int} {y : PH} {T : Int → Int} {s : Int} (V : YV_ P t G K y) (h : T s = 97 + P) : fp_ y T s 1 = -1 := by
  refine fd_no _ _ fun j j0 j1 q => ?_
  have hj := V.2.2.2.1 j j0 (by have := V.1; omega)
  have := q.2 0 (by omega) (by omega)
  rw [hj.2, show s + 0 = s by omega, h] at this
  have := V.1
  omega
theorem fp_old {P t G K : Int} {y : PH} {T : Int → Int} {s i : Int} (V : YV_ P t G K y) (i0 : 0 ≤ i) (i1 : i < P) (h : T s = 97 + i) : fp_ y T s 1 = i := by
  have e := V.1
  refine fd_at _ _ i i0 (by omega) ⟨(V.2.2.2.1 i i0 i1).1, fun k k0 k1 => ?_⟩ (fun j j0 j1 q => ?_)
  · rw [show k = 0 by omega, (V.2.2.2.1 i i0 i1).2, show s + 0 = s by omega, h]
  · have := q.2 0 (by omega) (by omega)
    rw [(V.2.2.2.1 j j0 (by omega)).2, show s + 0 = s by omega, h] at this
    omega
theorem ft_new {P t G K : Int} {y : PH} {T : Int → Int} {s : Int} (V : YV_ P t G K y) (h : T s = 116 + t) : ft_ y T s 1 = -1 := by
  refine fd_no _ _ fun j j0 j1 q => ?_
  have hj := V.2.2.2.2.1 j j0 (by have := V.2.1; omega)
  have := q.2 0 (by omega) (by omega)
  rw [hj.2, show s + 0 = s by omega, h] at this
  have := V.2.1
  omega
theorem ft_old {P t G K : Int} {y : PH} {T : Int → Int} {s i : Int} (V : YV_ P t G K y) (i0 : 0 ≤ i) (i1 : i < t) (h : T s = 116 + i) : ft_ y T s 1 = i := by
  have e := V.2.1
  refine fd_at _ _ i i0 (by omega) ⟨(V.2.2.2.2.1 i i0 i1).1, fun k k0 k1 => ?_⟩ (fun j j0 j1 q => ?_)
  · rw [show k = 0 by omega, (V.2.2.2.2.1 i i0 i1).2, show s + 0 = s by omega, h]
  · have := q.2 0 (by omega) (by omega)
    rw [(V.2.2.2.2.1 j j0 (by omega)).2, show s + 0 = s by omega, h] at this
    omega
