/-! THE TEXT T of n bytes, read from a on: what a line tells -/
/-- on while P holds -/
noncomputable def ru_ (P : Int → Prop) : Nat → Int → Int
  | 0, a => a
  | m + 1, a => @ite _ (P a) (Classical.propDecidable _) (ru_ P m (a + 1)) a
noncomputable def nb_ (T : Int → Int) (n a : Int) : Int := ru_ (fun i => T i = 32 ∨ T i = 10 ∨ T i = 9) (n - a).toNat a
noncomputable def we_ (T : Int → Int) (n a : Int) : Int := ru_ (fun i => 97 ≤ T i ∧ T i ≤ 122) (n - a).toNat a
noncomputable def de_ (T : Int → Int) (n a : Int) : Int := ru_ (fun i => 48 ≤ T i ∧ T i ≤ 57) (n - a).toNat a
theorem ru_bd {P : Int → Prop} : ∀ (m : Nat) (a : Int), a ≤ ru_ P m a ∧ ru_ P m a ≤ a + m
  | 0, a => by rw [ru_]; omega
  | m + 1, a => by
    rw [ru_]
    split
    · have := ru_bd (P := P) m (a + 1)
      omega
    · omega
theorem ru_up {P : Int → Prop} {n a : Int} (h : a < n) (hp : P a) : ru_ P (n - a).toNat a = ru_ P (n - (a + 1)).toNat (a + 1) := by
  rw [show (n - a).toNat = (n - (a + 1)).toNat + 1 by omega, ru_, if_pos hp]
theorem ru_st {P : Int → Prop} {n a : Int} (h : ¬ (a < n ∧ P a)) : ru_ P (n - a).toNat a = a := by
  by_cases c : a < n
  · rw [show (n - a).toNat = (n - (a + 1)).toNat + 1 by omega, ru_, if_neg (fun q => h ⟨c, q⟩)]
  · rw [show (n - a).toNat = 0 by omega, ru_]
/-- .. where it stands, P holds no more -/
theorem ru_no {P : Int → Prop} : ∀ (m : Nat) (a : Int), ru_ P m a < a + m → ¬ P (ru_ P m a)
  | 0, a, h => by rw [ru_] at h; omega
  | m + 1, a, h => by
    rw [ru_] at h ⊢
    split
    · rename_i c
      rw [if_pos c] at h
      exact ru_no m (a + 1) (by omega)
    · rename_i c
      exact c
theorem ru_al {P : Int → Prop} : ∀ (m : Nat) (a i : Int), a ≤ i → i < ru_ P m a → P i
  | 0, a, i, h, q => by rw [ru_] at q; omega
  | m + 1, a, i, h, q => by
    rw [ru_] at q
    split at q
    · rename_i c
      by_cases e : i = a
      · rw [e]; exact c
      · exact ru_al m (a + 1) i (by omega) q
    · omega
theorem nb_bd {T : Int → Int} {n a : Int} (h : a ≤ n) : a ≤ nb_ T n a ∧ nb_ T n a ≤ n := by
  have := ru_bd (P := fun i => T i = 32 ∨ T i = 10 ∨ T i = 9) (n - a).toNat a
  unfold nb_
  omega
theorem we_bd {T : Int → Int} {n a : Int} (h : a ≤ n) : a ≤ we_ T n a ∧ we_ T n a ≤ n := by
  have := ru_bd (P := fun i => 97 ≤ T i ∧ T i ≤ 122) (n - a).toNat a
  unfold we_
  omega
theorem de_bd {T : Int → Int} {n a : Int} (h : a ≤ n) : a ≤ de_ T n a ∧ de_ T n a ≤ n := by
  have := ru_bd (P := fun i => 48 ≤ T i ∧ T i ≤ 57) (n - a).toNat a
  unfold de_
  omega
/-- blanks skipped once are skipped -/
theorem nb_nb {T : Int → Int} {n a : Int} (h : a ≤ n) : nb_ T n (nb_ T n a) = nb_ T n a := by
  have b := nb_bd (T := T) h
  unfold nb_ at b ⊢
  refine ru_st fun q => ?_
  exact ru_no (P := fun i => T i = 32 ∨ T i = 10 ∨ T i = 9) (n - a).toNat a (by omega) q.2
/-- a number's worth: its first five digits -/
def vl_ (T : Int → Int) (s : Int) : Nat → Int → Int → Int
  | 0, _, v => v
  | m + 1, i, v => vl_ T s m (i + 1) (if i - s < 5 then v * 10 + (T i - 48) else v)
noncomputable def nv_ (T : Int → Int) (n s : Int) : Int := vl_ T s (de_ T n s - s).toNat s 0
/-- v is what k digits may make -/
def vk_ (k v : Int) : Prop := 0 ≤ v ∧ (k ≤ 0 → v ≤ 0) ∧ (k ≤ 1 → v ≤ 9) ∧ (k ≤ 2 → v ≤ 99) ∧ (k ≤ 3 → v ≤ 999) ∧ (k ≤ 4 → v ≤ 9999) ∧ v ≤ 99999
theorem vk_s {k v t : Int} (h : vk_ k v) (k0 : 0 ≤ k) (k1 : k < 5) (t0 : 48 ≤ t) (t1 : t ≤ 57) : vk_ (k + 1) (v * 10 + (t - 48)) := by
  unfold vk_ at *
  rcases (by omega : k = 0 ∨ k = 1 ∨ k = 2 ∨ k = 3 ∨ k = 4) with e | e | e | e | e <;> subst e <;> omega
theorem vk_o {k v : Int} (h : vk_ k v) (k1 : 5 ≤ k) : vk_ (k + 1) v := by
  unfold vk_ at *
  omega
theorem vl_bd {T : Int → Int} {s : Int} : ∀ (m : Nat) (i v : Int), s ≤ i → (∀ j : Int, i ≤ j → j < i + m → 48 ≤ T j ∧ T j ≤ 57) → vk_ (i - s) v → 0 ≤ vl_ T s m i v ∧ vl_ T s m i v ≤ 99999
  | 0, i, v, h, d, k => by
    rw [vl_]
    unfold vk_ at k
    omega
  | m + 1, i, v, h, d, k => by
    rw [vl_]
    have d0 := d i (by omega) (by omega)
    refine vl_bd m (i + 1) _ (by omega) (fun j a b => d j (by omega) (by omega)) ?_
    rw [show i + 1 - s = i - s + 1 by omega]
    split
    · exact vk_s k (by omega) (by omega) d0.1 d0.2
    · exact vk_o k (by omega)
theorem nv_bd {T : Int → Int} {n s : Int} : 0 ≤ nv_ T n s ∧ nv_ T n s ≤ 99999 := by
  have b := ru_bd (P := fun i => 48 ≤ T i ∧ T i ≤ 57) (n - s).toNat s
  unfold nv_
  refine vl_bd _ _ _ (Int.le_refl _) (fun j a c => ?_) ?_
  · refine ru_al (P := fun i => 48 ≤ T i ∧ T i ≤ 57) (n - s).toNat s j a ?_
    show j < de_ T n s
    unfold de_ at c ⊢
    omega
  · unfold vk_
    omega
/-- text j stands at s, l letters long -/
def iw_ (T : Int → Int) (s l : Int) (j : Nat) : Prop := l = ((txb_ j).length : Int) ∧ ∀ k : Int, 0 ≤ k → k < l → T (s + k) = (txb_ j).getD k.toNat 0
/-- which word: the first of m from j on; 23 none -/
noncomputable def wx_ (P : Nat → Prop) : Nat → Nat → Nat
  | 0, _ => 23
  | m + 1, j => @ite _ (P j) (Classical.propDecidable _) j (wx_ P m (j + 1))
noncomputable def wi_ (T : Int → Int) (s l : Int) : Nat := wx_ (iw_ T s l) 24 0
theorem wx_le {P : Nat → Prop} : ∀ (m j : Nat), j + m ≤ 24 → wx_ P m j ≤ 23
  | 0, j, h => Nat.le_refl _
  | m + 1, j, h => by
    rw [wx_]
    split
    · omega
    · exact wx_le m (j + 1) (by omega)
theorem wi_le {T : Int → Int} {s l : Int} : wi_ T s l ≤ 23 := wx_le _ _ (by omega)
theorem wx_no {P : Nat → Prop} : ∀ (m j : Nat), j + m = 24 → wx_ P m j < 23 → P (wx_ P m j)
  | 0, j, h, q => by rw [wx_] at q; omega
  | m + 1, j, h, q => by
    rw [wx_] at q ⊢
    split
    · rename_i c
      exact c
    · rename_i c
      rw [if_neg c] at q
      exact wx_no m (j + 1) (by omega) q
theorem wx_un {P : Nat → Prop} (u : ∀ i j : Nat, i < 23 → j < 24 → P i → P j → j = i) {i : Nat} (hi : i < 23) (h : P i) : ∀ (m j : Nat), j ≤ i → j + m = 24 → wx_ P m j = i
  | 0, j, h1, h2 => by omega
  | m + 1, j, h1, h2 => by
    rw [wx_]
    split
    · rename_i c
      exact u i j hi (by omega) h c
    · rename_i c
      refine wx_un u hi h m (j + 1) ?_ (by omega)
      rcases Nat.lt_or_ge j i with q | q
      · omega
      · exact absurd (show P j by rw [show j = i by omega]; exact h) c
theorem txs_di : ∀ i : Nat, i < 23 → ∀ j : Nat, j < 24 → (txb_ i).length = (txb_ j).length → (∀ k : Nat, k < 8 → (txb_ i).getD k 0 = (txb_ j).getD k 0) → j = i := by decide +kernel
theorem iw_un {T : Int → Int} {s l : Int} : ∀ i j : Nat, i < 23 → j < 24 → iw_ T s l i → iw_ T s l j → j = i := by
  intro i j hi hj h1 h2
  have e : (txb_ i).length = (txb_ j).length := by
    have a := h1.1
    have b := h2.1
    omega
  refine txs_di i hi j hj e (fun k hk => ?_)
  by_cases c : (k : Int) < l
  · have a := h1.2 k (by omega) c
    have b := h2.2 k (by omega) c
    rw [show (k : Int).toNat = k by omega] at a b
    rw [← a, ← b]
  · have a := h1.1
    have b := h2.1
    rw [List.getD_eq_getElem?_getD, List.getD_eq_getElem?_getD, List.getElem?_eq_none (by omega), List.getElem?_eq_none (by omega)]
/-- the word here is word i just where its letters stand here -/
theorem wi_iff {T : Int → Int} {s l : Int} {i : Nat} (hi : i < 23) : wi_ T s l = i ↔ iw_ T s l i := by
  refine ⟨fun h => ?_, fun h => wx_un iw_un hi h 24 0 (by omega) (by omega)⟩
  have := wx_no (P := iw_ T s l) 24 0 (by omega) (by show wi_ T s l < 23; omega)
  rw [← h]
  exact this
/-- the first of m from i on for which P holds; -1 where there is none -/
noncomputable def fd_ (P : Int → Prop) : Nat → Int → Int
  | 0, _ => -1
  | m + 1, i => @ite _ (P i) (Classical.propDecidable _) i (fd_ P m (i + 1))
theorem fd_bd {P : Int → Prop} : ∀ (m : Nat) (i : Int), fd_ P m i = -1 ∨ (i ≤ fd_ P m i ∧ fd_ P m i < i + m ∧ P (fd_ P m i))
  | 0, i => Or.inl rfl
  | m + 1, i => by
    rw [fd_]
    split
    · rename_i c
      exact Or.inr ⟨Int.le_refl _, by omega, c⟩
    · rcases fd_bd (P := P) m (i + 1) with h | h
      · exact Or.inl h
      · exact Or.inr ⟨by omega, by omega, h.2.2⟩
theorem fd_no {P : Int → Prop} : ∀ (m : Nat) (i : Int), (∀ j : Int, i ≤ j → j < i + m → ¬ P j) → fd_ P m i = -1
  | 0, _, _ => rfl
  | m + 1, i, h => by
    rw [fd_, if_neg (h i (by omega) (by omega))]
    exact fd_no m (i + 1) (fun j a b => h j (by omega) (by omega))
theorem fd_at {P : Int → Prop} : ∀ (m : Nat) (i r : Int), i ≤ r → r < i + m → P r → (∀ j : Int, i ≤ j → j < r → ¬ P j) → fd_ P m i = r
  | 0, i, r, h0, h1, _, _ => by omega
  | m + 1, i, r, h0, h1, p, h => by
    rw [fd_]
    split
    · rename_i c
      rcases Int.lt_or_eq_of_le h0 with q | q
      · exact absurd c (h i (by omega) q)
      · exact q
    · rename_i c
      have : i ≠ r := fun e => c (by rw [e]; exact p)
      exact fd_at m (i + 1) r (by omega) (by omega) p (fun j a b => h j (by omega) b)
theorem fd_congr {P P' : Int → Prop} : ∀ (m : Nat) (i : Int), (∀ j : Int, i ≤ j → j < i + m → (P j ↔ P' j)) → fd_ P m i = fd_ P' m i
  | 0, _, _ => rfl
  | m + 1, i, h => by
    rw [fd_, fd_]
    have h0 := h i (by omega) (by omega)
    rw [fd_congr m (i + 1) (fun j a b => h j (by omega) (by omega))]
    by_cases c : P i
    · rw [if_pos c, if_pos (h0.mp c)]
    · rw [if_neg c, if_neg (fun q => c (h0.mpr q))]
/-- thing i, person i has the name that stands at s, l letters long -/
def nt_ (y : PH) (T : Int → Int) (s l i : Int) : Prop := y 10 i = l ∧ ∀ k : Int, 0 ≤ k → k < l → y (20 + i) k = T (s + k)
def np_ (y : PH) (T : Int → Int) (s l i : Int) : Prop := y 11 i = l ∧ ∀ k : Int, 0 ≤ k → k < l → y (30 + i) k = T (s + k)
noncomputable def ft_ (y : PH) (T : Int → Int) (s l : Int) : Int := fd_ (nt_ y T s l) (y 0 0).toNat 0
noncomputable def fp_ (y : PH) (T : Int → Int) (s l : Int) : Int := fd_ (np_ y T s l) (y 0 1).toNat 0
/-! what may stand at a -/
/-- where a word begins, ends -/
noncomputable def ws_ (T : Int → Int) (n a : Int) : Int := nb_ T n a
noncomputable def wn_ (T : Int → Int) (n a : Int) : Int := we_ T n (nb_ T n a)
noncomputable def wl__ (T : Int → Int) (n a : Int) : Int := wn_ T n a - nb_ T n a
/-- the word that stands at a, a name new or told, a number, an end -/
def okW (T : Int → Int) (n a : Int) (j : Nat) : Prop := iw_ T (nb_ T n a) (wl__ T n a) j
def okU (T : Int → Int) (n a : Int) : Prop := 1 ≤ wl__ T n a ∧ wl__ T n a ≤ 6 ∧ wi_ T (nb_ T n a) (wl__ T n a) = 23
noncomputable def tT (y : PH) (T : Int → Int) (n a : Int) : Int := ft_ y T (nb_ T n a) (wl__ T n a)
noncomputable def tP (y : PH) (T : Int → Int) (n a : Int) : Int := fp_ y T (nb_ T n a) (wl__ T n a)
noncomputable def dn_ (T : Int → Int) (n a : Int) : Int := de_ T n (nb_ T n a)
noncomputable def dv_ (T : Int → Int) (n a : Int) : Int := nv_ T n (nb_ T n a)
def okN (T : Int → Int) (n a lo hi : Int) : Prop := (1 ≤ dn_ T n a - nb_ T n a ∧ dn_ T n a - nb_ T n a ≤ 5) ∧ lo ≤ dv_ T n a ∧ dv_ T n a ≤ hi
def okE (T : Int → Int) (n a : Int) : Prop := nb_ T n a < n ∧ T (nb_ T n a) = 59
/-! what a line makes of what was read: (-1, where it ends, what it tells) or (where it is wrong, ..) -/
abbrev OU := Int × Int × PH
def yc_ (y : PH) (k v : Int) : PH := fun x => if x = 0 then fu_ (y 0) k v else y x
/-- a new thing's, person's name -/
def ynt (y : PH) (T : Int → Int) (s l : Int) : PH := fun x => if x = 0 then fu_ (y 0) 0 (y 0 0 + 1) else if x = 10 then fu_ (y 10) (y 0 0) l else if x = 20 + y 0 0 then fun k => T (s + k) else y x
def ynp (y : PH) (T : Int → Int) (s l : Int) : PH := fun x => if x = 0 then fu_ (y 0) 1 (y 0 1 + 1) else if x = 11 then fu_ (y 11) (y 0 1) l else if x = 30 + y 0 1 then fun k => T (s + k) else y x
def ypa (y : PH) (p q c : Int) : PH := fun x => if x = 2 then fu_ (y 2) p q else if x = 3 then fu_ (y 3) p c else y x
def ygi (y : PH) (k p t m r : Int) : PH := fun x => if x = 0 then fu_ (y 0) 2 (y 0 2 + 1) else if x = 5 then fu_ (y 5) (y 0 2) k else if x = 6 then fu_ (y 6) (y 0 2) p else if x = 7 then fu_ (y 7) (y 0 2) t else if x = 8 then fu_ (y 8) (y 0 2) m else if x = 9 then fu_ (y 9) (y 0 2) r else y x
/-- gift of kind k of thing t -/
def gk_ (y : PH) (k t : Int) : Prop := ∃ g : Int, 0 ≤ g ∧ g < y 0 2 ∧ y 5 g = k ∧ y 7 g = t
section LINES
noncomputable def iC {α : Type} (c : Prop) (a b : α) : α := @ite _ c (Classical.propDecidable c) a b
theorem iC_t {α : Type} {c : Prop} {a b : α} (h : c) : iC c a b = a := by unfold iC; exact if_pos h
theorem iC_f {α : Type} {c : Prop} {a b : α} (h : ¬ c) : iC c a b = b := by unfold iC; exact if_neg h
noncomputable def pThing (T : Int → Int) (n s a : Int) (y : PH) : OU := iC (¬ y 0 0 < 8) ((s, a, y)) (iC (¬ (okU T n a ∧ tT y T n a = -1)) ((nb_ T n a, a, y)) (iC (¬ okN T n (wn_ T n a) 1 9999) ((nb_ T n (wn_ T n a), a, y)) ((-1, dn_ T n (wn_ T n a), zput (ynt y T (nb_ T n a) (wl__ T n a)) (fu_ (y 1) (y 0 0) (dv_ T n (wn_ T n a)))))))
noncomputable def pTold (w hi : Int) (T : Int → Int) (n a : Int) (y : PH) : OU := iC (¬ okN T n a 0 hi) ((nb_ T n a, a, y)) ((-1, dn_ T n a, zput y (fu_ (y 1) (56 + w) (dv_ T n a))))
noncomputable def pPerson (c : Int) (T : Int → Int) (n s a : Int) (y : PH) : OU := iC (¬ y 0 1 < 12) ((s, a, y)) (iC (¬ (okU T n a ∧ tP y T n a = -1)) ((nb_ T n a, a, y)) ((-1, wn_ T n a, ypa (ynp y T (nb_ T n a) (wl__ T n a)) (y 0 1) (-1) c)))
noncomputable def pIssue (T : Int → Int) (n s a : Int) (y : PH) : OU := iC (¬ y 0 1 < 12) ((s, a, y)) (iC (¬ (okU T n a ∧ tP y T n a = -1)) ((nb_ T n a, a, y)) (iC (¬ okW T n (wn_ T n a) 6) ((nb_ T n (wn_ T n a), a, y)) (iC (tP y T n (wn_ T n (wn_ T n a)) = -1) ((nb_ T n (wn_ T n (wn_ T n a)), a, y)) ((-1, wn_ T n (wn_ T n (wn_ T n a)), ypa (ynp y T (nb_ T n a) (wl__ T n a)) (y 0 1) (tP y T n (wn_ T n (wn_ T n a))) 0)))))
/-- which thing a gift of kind k is of, where that ends -/
noncomputable def pgT (k : Int) (T : Int → Int) (n a : Int) (y : PH) : OU := iC (k = 0 ∨ k = 2) ((iC (tT y T n a = -1 ∨ gk_ y 0 (tT y T n a) ∨ (k = 0 ∧ gk_ y 2 (tT y T n a))) ((nb_ T n a, 0, y)) ((-1, wn_ T n a, fun _ _ => tT y T n a)))) ((-1, a, fun _ _ => -1))
noncomputable def pgM (k : Int) (T : Int → Int) (n a : Int) (y : PH) : OU := iC (k = 0) ((-1, a, fun _ _ => -1)) (iC (¬ okN T n a 1 (iC (k = 3) (9) (9999))) ((nb_ T n a, 0, y)) ((-1, dn_ T n a, fun _ _ => dv_ T n a)))
noncomputable def pgR (k : Int) (T : Int → Int) (n a : Int) (y : PH) : OU := iC (k = 1 ∨ k = 2) ((iC (nb_ T n a < wn_ T n a) ((iC (¬ okW T n a 10) ((nb_ T n a, 0, y)) (iC (¬ okN T n (wn_ T n a) 1 4) ((nb_ T n (wn_ T n a), 0, y)) ((-1, dn_ T n (wn_ T n a), fun _ _ => dv_ T n (wn_ T n a)))))) ((-1, nb_ T n a, fun _ _ => 4)))) ((-1, a, fun _ _ => -1))
noncomputable def pGift (k : Int) (T : Int → Int) (n s a : Int) (y : PH) : OU := iC (¬ y 0 2 < 12) ((s, a, y)) (iC (¬ (pgT k T n a y).1 = -1) (pgT k T n a y) (iC (¬ (pgM k T n (pgT k T n a y).2.1 y).1 = -1) (pgM k T n (pgT k T n a y).2.1 y) (iC (¬ okW T n (pgM k T n (pgT k T n a y).2.1 y).2.1 8) ((nb_ T n (pgM k T n (pgT k T n a y).2.1 y).2.1, a, y)) (iC (tP y T n (wn_ T n (pgM k T n (pgT k T n a y).2.1 y).2.1) = -1) ((nb_ T n (wn_ T n (pgM k T n (pgT k T n a y).2.1 y).2.1), a, y)) (iC (¬ (pgR k T n (wn_ T n (wn_ T n (pgM k T n (pgT k T n a y).2.1 y).2.1)) y).1 = -1) (pgR k T n (wn_ T n (wn_ T n (pgM k T n (pgT k T n a y).2.1 y).2.1)) y) ((-1, (pgR k T n (wn_ T n (wn_ T n (pgM k T n (pgT k T n a y).2.1 y).2.1)) y).2.1, ygi y k (tP y T n (wn_ T n (pgM k T n (pgT k T n a y).2.1 y).2.1)) ((pgT k T n a y).2.2 0 0) ((pgM k T n (pgT k T n a y).2.1 y).2.2 0 0) ((pgR k T n (wn_ T n (wn_ T n (pgM k T n (pgT k T n a y).2.1 y).2.1)) y).2.2 0 0))))))))
/-- a thing told ahead and held -/
def okH (T : Int → Int) (n a : Int) (y : PH) : Prop := ¬ tT y T n a = -1 ∧ y 1 (8 + tT y T n a) = 0
noncomputable def pSold (T : Int → Int) (n a : Int) (y : PH) : OU := iC (¬ okH T n a y) ((nb_ T n a, a, y)) (iC (¬ okN T n (wn_ T n a) 1 9999) ((nb_ T n (wn_ T n a), a, y)) (iC (¬ okW T n (dn_ T n (wn_ T n a)) 14) ((nb_ T n (dn_ T n (wn_ T n a)), a, y)) (iC (¬ (okN T n (wn_ T n (dn_ T n (wn_ T n a))) 0 (dv_ T n (wn_ T n a)) ∧ y 1 56 + dv_ T n (wn_ T n a) - dv_ T n (wn_ T n (dn_ T n (wn_ T n a))) ≤ 99999)) ((nb_ T n (wn_ T n (dn_ T n (wn_ T n a))), a, y)) ((-1, dn_ T n (wn_ T n (dn_ T n (wn_ T n a))), zput y (fsold (y 1) (tT y T n a) (dv_ T n (wn_ T n a)) (dv_ T n (wn_ T n (dn_ T n (wn_ T n a))))))))))
noncomputable def pChanged (T : Int → Int) (n a : Int) (y : PH) : OU := iC (¬ okH T n a y) ((nb_ T n a, a, y)) (iC (¬ okN T n (wn_ T n a) 1 9999) ((nb_ T n (wn_ T n a), a, y)) ((-1, dn_ T n (wn_ T n a), zput y (fu_ (y 1) (tT y T n a) (dv_ T n (wn_ T n a))))))
noncomputable def pLost (T : Int → Int) (n a : Int) (y : PH) : OU := iC (¬ okH T n a y) ((nb_ T n a, a, y)) (iC (¬ okW T n (wn_ T n a) 17) ((nb_ T n (wn_ T n a), a, y)) (iC (¬ okN T n (wn_ T n (wn_ T n a)) 0 9999) ((nb_ T n (wn_ T n (wn_ T n a)), a, y)) ((-1, dn_ T n (wn_ T n (wn_ T n a)), zput y (flost (y 1) (tT y T n a) (dv_ T n (wn_ T n (wn_ T n a))))))))
noncomputable def pDead (T : Int → Int) (n a : Int) (y : PH) : OU := iC (¬ (¬ tP y T n a = -1 ∧ y 1 (32 + tP y T n a) = 0)) ((nb_ T n a, a, y)) ((-1, wn_ T n a, zput y (fu_ (y 1) (32 + tP y T n a) 1)))
noncomputable def pRule (T : Int → Int) (n a : Int) (y : PH) : OU := iC (¬ okW T n a 22) ((nb_ T n a, a, y)) ((-1, wn_ T n a, zput y (fu_ (y 1) (56 + 4) 1)))
/-- what stands behind the line's first word j -/
noncomputable def pBody (j : Nat) (T : Int → Int) (n s a : Int) (y : PH) : OU := iC (j = 0) (pThing T n s a y) (iC (j = 1) (pTold 0 99999 T n a y) (iC (j = 2) (pTold 1 99999 T n a y) (iC (j = 3) (pPerson 1 T n s a y) (iC (j = 4) (pPerson 0 T n s a y) (iC (j = 5) (pIssue T n s a y) (iC (j = 7) (pGift 0 T n s a y) (iC (j = 9) (pGift 1 T n s a y) (iC (j = 11) (pGift 2 T n s a y) (iC (j = 12) (pGift 3 T n s a y) (iC (j = 13) (pSold T n a y) (iC (j = 15) (pChanged T n a y) (iC (j = 16) (pLost T n a y) (iC (j = 18) (pDead T n a y) (iC (j = 19) (pTold 2 240 T n a y) (iC (j = 20) (pTold 3 99 T n a y) (iC (j = 21) (pRule T n a y) ((s, a, y))))))))))))))))))
noncomputable def pEnd (T : Int → Int) (n : Int) (u : OU) : OU := iC (¬ u.1 = -1) (u) (iC (¬ okE T n u.2.1) ((nb_ T n u.2.1, u.2.1, u.2.2)) ((-1, nb_ T n (nb_ T n u.2.1 + 1), u.2.2)))
noncomputable def pLine (T : Int → Int) (n a : Int) (y : PH) : OU := iC (¬ nb_ T n a < wn_ T n a) ((nb_ T n a, a, y)) (pEnd T n (pBody (wi_ T (nb_ T n a) (wl__ T n a)) T n (nb_ T n a) (wn_ T n a) y))
noncomputable def pRead (T : Int → Int) (n : Int) : Nat → Int → PH → OU
  | 0, a, y => (-1, a, y)
  | m + 1, a, y => iC (¬ a < n) (-1, a, y) (iC (¬ (pLine T n a y).1 = -1) (pLine T n a y) (pRead T n m (pLine T n a y).2.1 (pLine T n a y).2.2))
end LINES
